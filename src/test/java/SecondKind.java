/** KINDS as classes under one another, each telling whether a FIGURE can have come so and what that costs. */
abstract class SecondKind {
    private SecondKind() { }

    static final SecondKind[] ALL = {new Any(), new Measured(), new Worked(), new Rounded(), new Carried(), new Slipped(), new Made(), new Fitted()};

    abstract boolean fits(SecondState s, int figure);

    abstract int price(int pairs);

    boolean isOf(SecondKind other) {
        return other.getClass().isInstance(this);
    }

    boolean isUnkind() {
        return this instanceof Made;
    }

    private static class Any extends SecondKind {
        boolean fits(SecondState s, int figure) { return true; }
        int price(int pairs) { return 5; }
    }

    private static final class Measured extends Any {
        boolean fits(SecondState s, int figure) {
            int value = s.figures.get(figure).value();
            return value >= s.base - s.spread(figure) && value <= s.base + s.spread(figure);
        }
        int price(int pairs) { return 1; }
    }

    private static class Worked extends Any {
        boolean fits(SecondState s, int figure) {
            return s.working(figure) != null && s.worked(figure) == s.figures.get(figure).value();
        }
        int price(int pairs) { return super.price(pairs) - 2; }
    }

    private static final class Rounded extends Worked {
        boolean fits(SecondState s, int figure) {
            if (s.working(figure) == null) return false;
            long given = s.worked(figure);
            return given >= s.figures.get(figure).value() - 50L && given <= s.figures.get(figure).value() + 50L;
        }
        int price(int pairs) { return super.price(pairs) + 1; }
    }

    private static final class Carried extends Any {
        boolean fits(SecondState s, int figure) {
            return s.from(figure) != null && s.from(figure).value() == s.figures.get(figure).value();
        }
        int price(int pairs) { return 2; }
    }

    private static final class Slipped extends Any {
        boolean fits(SecondState s, int figure) {
            if (s.from(figure) == null) return false;
            String one = String.format("%04d", s.figures.get(figure).value());
            String other = String.format("%04d", s.from(figure).value());
            int unlike = 0;
            for (int k = 0; k < 4; k++) unlike += one.charAt(k) == other.charAt(k) ? 0 : 1;
            return unlike == 1;
        }
        int price(int pairs) { return super.price(pairs) + 3; }
    }

    private static class Made extends Any {
        int price(int pairs) { return 4 * super.price(pairs); }
    }

    private static final class Fitted extends Made {
        boolean fits(SecondState s, int figure) {
            return super.fits(s, figure) && s.from(figure) != null && (s.from(figure).value() + s.figures.get(figure).value()) % 2 == 0;
        }
        int price(int pairs) { return super.price(pairs) + pairs / 100; }
    }
}
