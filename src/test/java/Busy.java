/** A desk on which everything has been used, to see what calls leave as it was. */
final class Busy {
    private Busy() {
    }

    /**
     * Talks 0 to 9: 0 and 1 in session 0, 2 in session 1, 3 in session 2 (a keynote), 4 fell out of session 1, 5 to 9 wait;
     * session 3 has none, session 4 was shut, 5 to 7 were never open. Speaker of talk t is t, with 20 + t in odd ones. Reader
     * 30 has given eight marks, 31 two. The printed grid isn't the plan; the tape has 20 bytes, the latest text had a fault.
     */
    static void make(TalkGrid x) {
        for (int p = 30; p < 36; p++) {
            x.house(p, p - 29);
        }
        Check.rules(x, "talks 1 5; chair yes; gap 7; over cut; theme 2; room 150;");
        for (int t = 0; t < 10; t++) {
            x.talk(t % 3, 10 + t, 20 + 5 * t, t, t % 2 == 0 ? -1 : 20 + t, -1);
        }
        for (int t = 0; t < 8; t++) {
            x.mark(30, t, 2 * t + 1);
        }
        x.mark(31, 6, 20);
        x.mark(31, 9, 3);
        x.over(0, 30);
        x.over(2, 8);
        for (int s = 0; s < 5; s++) {
            x.open(s, 10 + s, s == 2);
            for (int o = 0; o < s; o++) {
                x.wish(s, o, 10 * s + o);
            }
        }
        for (int t = 0; t < 5; t++) {
            x.put(t < 2 ? 0 : t == 3 ? 2 : 1, t);
        }
        x.slots(4);
        x.room(1, 60);
        x.room(4, 40);
        x.plan();
        x.print();
        x.shut(4);
        x.fallOut(4);
        x.slots(3);
        x.wish(0, 1, 90);
        x.plan();
        Check.rules(x, "gap 7; room 201;");
        // "fill any; gap 9;" and blanks.
        x.feed(0x66696c6c, 0x20616e79, 0x3b206761, 0x7020393b, 0x20202020);
    }
}
