/**
 * All that can be seen of an object: what it tells now, and what it answers to the next calls.
 * An object is good for 512 calls alone, so each part is looked at on an object of its own.
 */
final class Look {
    /** What is done with a new object ahead of a look. */
    interface Recipe {
        void make(GaleRoof x);
    }

    private final Recipe recipe;
    private final StringBuilder seen = new StringBuilder();

    private Look(Recipe recipe) {
        this.recipe = recipe;
    }

    /** Two recipes are alike for the document if these texts are. */
    static String at(Recipe recipe) {
        return at(recipe, true);
    }

    /** The tape is left out where one of two recipes has another: its bytes and the texts that come behind them. */
    static String at(Recipe recipe, boolean withTape) {
        Look look = new Look(recipe);
        look.roof(withTape);
        look.yard(0);
        look.yard(2);
        look.plans();
        look.village();
        look.slots();
        look.nextCalls();
        if (withTape) {
            look.tape();
        }
        return look.seen.toString();
    }

    private GaleRoof made(String part) {
        seen.append('\n').append(part).append(':');
        GaleRoof x = new GaleRoof();
        recipe.make(x);
        return x;
    }

    private void add(long answer) {
        seen.append(' ').append(answer);
    }

    private void add(boolean answer) {
        add(answer ? 1 : 0);
    }

    private void roof(boolean withTape) {
        GaleRoof x = made("roof");
        for (int what = -1; what < 18; what++) {
            if (withTape || what != 8) {
                add(x.count(what));
            }
        }
        if (withTape) {
            add(x.place());
        }
        int tiles = x.count(0) * x.count(1);
        for (int t = 0; t < tiles; t++) {
            for (int what = 0; what < 6; what++) {
                add(x.tile(t, what));
            }
        }
        for (int d = 0; d < x.count(3); d++) {
            add(x.door(d, 0) * 100 + x.door(d, 1) * 10 + x.door(d, 2));
        }
        for (int way = 0; way < 4; way++) {
            add(x.inlet(way, 0));
            add(x.inlet(way, 1));
            add(x.fall(40, way, 0));
            add(x.fall(40, way, 1));
        }
        for (int what = 0; what < 4; what++) {
            add(x.lift(0, 37, 1, what));
            add(x.lift(tiles - 1, 99, 3, what));
        }
        add(x.felt(true));
    }

    private void yard(int fromSide) {
        GaleRoof x = made("yard");
        for (int side = fromSide; side < fromSide + 2; side++) {
            for (int cell = 0; cell < 120; cell++) {
                add(x.yard(1000 * side + cell / 20 * 100 + cell % 20));
            }
        }
    }

    private void plans() {
        GaleRoof x = made("plans");
        for (int n = 0; n < 3; n++) {
            add(x.nailing(n));
            add(x.nailingAt(n, 0));
            add(x.nailingAt(n, 1));
            add(x.without(n));
        }
        add(x.onebyone(12));
        for (int i = 0; i < 12; i++) {
            add(x.onebyoneAt(12, i));
        }
        add(x.harm());
        for (int way = 0; way < 4; way++) {
            add(x.doors(30, way));
            add(x.helps(0, 30, way));
            add(x.ever(0, way));
            add(x.first(way, false));
            add(x.first(way, true));
            add(x.goes(1, way, true));
            add(x.neglect(20, way));
            add(x.worst(60, way));
            add(x.yardTells(way));
        }
        for (int i = 0; i < 8; i++) {
            add(x.fallen(60, 1, i));
            add(x.hits(i));
            add(x.night(i + 1));
            add(x.years(i, 7 * i));
            add(x.lasts(i));
        }
        add(x.odds(3, 20, 30, 2));
    }

    private void village() {
        GaleRoof x = made("village");
        int facts = x.count(5);
        for (int n = Math.max(0, facts - 6); n <= facts; n++) {
            for (int c = 0; c < 100; c += 33) {
                for (int what = 0; what < 4; what++) {
                    add(x.village(n, c, what));
                }
                add(x.villageWays(n, c, true));
                add(x.villageWays(n, c, false));
                add(x.line(n, c, true));
                add(x.line(n, c, false));
            }
        }
        add(x.warned(5, 1, 1));
    }

    private void slots() {
        for (int slot = 0; slot < 3; slot++) {
            GaleRoof x = made("slot");
            add(x.restore(slot));
            add(x.count(9));
            add(x.harm());
            for (int t = 0; t < 6; t++) {
                for (int what = 0; what < 5; what++) {
                    add(x.tile(t, what));
                }
            }
            for (int i = 0; i < 8; i++) {
                add(x.hits(i));
                add(x.door(i, 2));
            }
            add(x.yardTells(0));
            add(x.yardTells(2));
            add(x.sweep());
            add(x.calm());
            add(x.felt(true));
        }
    }

    private void nextCalls() {
        GaleRoof x = made("next");
        add(x.car(2100));
        add(x.gust(33, 0, 3));
        add(x.house(7, 2, 3, 4));
        add(x.annul(0));
        add(x.harm());
        add(x.hold(2));
        add(x.set(0, 3, 9));
        add(x.there(0, false));
        add(x.open(0, true));
        add(x.felt(false));
        add(x.blow(70, 0));
        for (int i = 0; i < 8; i++) {
            add(x.hits(i));
        }
        add(x.sweep());
        add(x.calm());
        add(x.there(0, true));
        add(x.count(4));
        add(x.restore(2));
        add(x.count(4));
        add(x.harm());
        add(x.restore(0));
        add(x.count(4));
    }

    private void tape() {
        GaleRoof x = made("tape");
        add(x.feed(0x3b6c6170, 0x20363b20, 0x3b6c6170, 0x20363b20, 0x20202020));
        add(x.back(1));
        add(x.read());
        add(x.place());
        add(x.read());
        add(x.place());
        add(x.count(14));
        GaleRoof y = made("as fed");
        add(y.read());
        add(y.place());
        for (int what = 0; what < 18; what++) {
            add(y.count(what));
        }
    }
}
