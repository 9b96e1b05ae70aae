/** Towns that tests make again and again; none of these takes more than 330 calls. */
final class Towns {
    private Towns() { }

    static OwnedByTwos bare() {
        return new OwnedByTwos();
    }

    static OwnedByTwos with(int... coins) {
        OwnedByTwos t = new OwnedByTwos();
        for (int coin : coins) {
            t.person(coin);
        }
        return t;
    }

    /** So many PEOPLE without COIN. */
    static OwnedByTwos people(int n) {
        return with(new int[n]);
    }

    /** So many THINGS of 0 and 1, of use 0. */
    static void things(OwnedByTwos t, int n) {
        for (int i = 0; i < n; i++) {
            t.thing(0, 1, 0);
        }
    }

    /** A bit of everything: each call that shows the state has something to show. */
    static OwnedByTwos small() {
        OwnedByTwos t = with(100, 20, 30, 7);
        t.like(1, 0, 2);
        t.like(1, 2, -3);
        t.like(2, 0, -1);
        t.like(0, 3, 9);
        t.heir(0, 1);
        t.heir(1, 2);
        t.thing(1, 2, 5);
        t.thing(0, 1, 6);
        t.thing(2, 3, 9);
        t.work(0, 1, 40, 3);
        t.work(0, 3, 41, 5);
        t.work(2, 4, 17, 3);
        t.work(1, 2, 5, 4);
        Check.law(t, "yes like;price use*2;quarrel 500;peace 300");
        Check.law(t, "yes 1;nods 1 if use>5");
        t.image(0);
        t.does(1, 3);
        t.row(0);
        t.row(2);
        t.row(1);
        t.seed(77);
        t.years(1, 1);
        t.quarrel(0, 3, true);
        t.image(2);
        t.quarrel(2, 3, true);
        Check.write(t, "price 7 if day<4");
        return t;
    }

    /** Small, with one of its PEOPLE, 3, dead. */
    static OwnedByTwos bereaved() {
        OwnedByTwos t = small();
        t.dies(3);
        return t;
    }

    /** 12 PEOPLE, 24 THINGS, 12 WORKS, 6 LAWS, a TAPE of 400 bytes, a ROW of 12, 4 IMAGES. */
    static OwnedByTwos full() {
        OwnedByTwos t = new OwnedByTwos();
        for (int i = 0; i < 12; i++) {
            t.person(i == 0 ? 99999 : 1000 * i);
        }
        for (int i = 0; i < 24; i++) {
            t.thing(i % 12, (i + 1 + i / 12) % 12, i * 999 / 23);
            t.like(i % 12, (i + 1 + i / 12) % 12, i % 19 - 9);
        }
        for (int i = 0; i < 12; i++) {
            t.work((i + 1) % 12, 1 << i | 1 << 12 + i, 9999 - i, i / 6 * 99);
            t.heir(i, (i + 5) % 12);
            t.row(i);
        }
        for (int i = 0; i < 6; i++) {
            Check.law(t, "yes like+" + i + ";price 7;quarrel 30;peace 900");
            if (i < 4) {
                t.does(i, i);
                t.quarrel(i, i + 2, true);
                t.image(i);
            }
        }
        for (int i = 0; i < 20; i++) {
            t.feed(0x79657320, 0x31202020, 0x20202020, 0x20202020, 0x2020203b);
        }
        return t;
    }

    /** Small, in YEAR 9999. */
    static OwnedByTwos late() {
        OwnedByTwos t = small();
        toYear(t, 9999);
        return t;
    }

    /** By its LAW 0. */
    static void toYear(OwnedByTwos t, int year) {
        for (int left = year - t.count(8); left > 0; left -= 60) {
            t.years(0, Math.min(60, left));
        }
    }
}
