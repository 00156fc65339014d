/** Objects in which something has happened already: what the tests of boundaries begin with. */
final class Scene {
    private Scene() {
    }

    static PassageCourt empty() {
        return new PassageCourt();
    }

    /** Lands 0 and 1 of the region, 2 and 3 outside; 0 gives its nation both ways, 1 not, 2 by descent, 3 by soil. */
    static PassageCourt lands() {
        PassageCourt x = new PassageCourt();
        x.land(true, true, true, 4);
        x.land(true, false, false, 30);
        x.land(false, false, true, 7);
        x.land(false, true, false, 0);
        return x;
    }

    /** Those lands; persons 0 and 3 of nation 2, 1 and 4 of none, 2 of nation 0; all abroad, on the day 0. */
    static PassageCourt five() {
        PassageCourt x = lands();
        x.person(2, 30);
        x.person(PassageCourt.NONE, 40);
        x.person(0, 20);
        x.person(2, 0);
        x.person(PassageCourt.NONE, 99);
        return x;
    }

    /** Those persons on the day 10, 4 banned; 3 visas, 2 rules, and requests 0 WAITING, 1 REFUSED, 2 APPEALED, 3 OVER. */
    static PassageCourt abroad() {
        PassageCourt x = five();
        x.waive(0, 2, true);
        x.rule(5, 20, 40);
        x.quota(0, 0, 2);
        x.visa(1, 3, 3, 60, 3, 30);
        x.slip(4, 1);
        x.pass(10);
        x.leave(4);
        x.visa(4, 0, 10, 100, 2, 5);
        x.visa(3, 2, 20, 30, 1, 9);
        x.ban(2, 4, 30);
        x.ask(0, 0, 0);
        x.ask(1, 0, 1);
        x.ask(3, 0, 1);
        x.withdraw(x.ask(4, 0, 2));
        x.join(0, 1);
        x.refuse(1);
        x.refuse(2);
        x.appeal(2);
        return x;
    }

    /** The same, but all are in a land since the day 10, 0 as a visitor, 2 at home, 3 and 4 slipped in, 1 by its visa outside. */
    static PassageCourt inside() {
        PassageCourt x = abroad();
        x.enter(0, 0);
        x.enter(1, 3);
        x.enter(2, 0);
        x.slip(3, 0);
        x.slip(4, 1);
        x.pass(2);
        return x;
    }

    /** Four lands, all of the region; persons 0 to 4 of nation 0, all of them in land 1. */
    static PassageCourt region() {
        PassageCourt x = new PassageCourt();
        for (int i = 0; i < 4; i++) {
            x.land(true, false, false, i);
        }
        for (int i = 0; i < 5; i++) {
            x.person(0, i);
            x.slip(i, 1);
        }
        return x;
    }

    /** Day 10, and everything full: 8 lands, 16 persons in land 0, 60 visas, 10 rules, 40 requests of which the last 4 wait. */
    static PassageCourt full() {
        PassageCourt x = new PassageCourt();
        for (int i = 0; i < 8; i++) {
            x.land(i < 4, true, true, i);
        }
        for (int i = 0; i < 16; i++) {
            x.person(i % 7, i);
            x.slip(i, 0);
        }
        x.pass(10);
        for (int i = 0; i < 60; i++) {
            x.visa(i % 16, i % 8, 10 + i, 100, 1 + i % 9, 1 + i);
        }
        for (int i = 0; i < 9; i++) {
            x.rule(20 + i, 1 + i, 30);
        }
        for (int i = 0; i < 40; i++) {
            x.ask(i % 16, 7, i % 3);
            if (i < 36) {
                x.withdraw(i);
            }
        }
        return x;
    }

    /** The day 360; persons 0 to 2 have permits of land 0 to 719 (request 0, GRANTED), 0 and 1 are there since 180. */
    static PassageCourt granted() {
        PassageCourt x = five();
        x.quota(0, 0, 1);
        x.nation(2, 0, false);
        x.ask(0, 0, 0);
        x.join(0, 1);
        x.join(0, 2);
        Check.passTo(x, 0, 180);
        x.slip(0, 0);
        x.slip(1, 0);
        Check.passTo(x, 180, 360);
        return x;
    }

    /** The day 1440; persons 0 and 1 are in land 0, with a permit of it from 360 to 1799. */
    static PassageCourt threeYears() {
        PassageCourt x = granted();
        for (int i = 0; i < 2; i++) {
            x.extend(i, 0);
            x.extend(i, 0);
            x.extend(i, 0);
        }
        Check.passTo(x, 360, 1440);
        return x;
    }

    /** All abroad, as on the day 10, on a later day. */
    static PassageCourt onDay(int day) {
        PassageCourt x = abroad();
        Check.passTo(x, 10, day);
        return x;
    }
}
