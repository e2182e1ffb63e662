/** A place with exact coordinates, or a way from one to another. */
record Spot(Fraction x, Fraction y) {
    static Spot at(long x, long y) {
        return new Spot(Fraction.whole(x), Fraction.whole(y));
    }

    Spot plus(Spot way) {
        return new Spot(x.plus(way.x), y.plus(way.y));
    }

    Spot minus(Spot other) {
        return new Spot(x.minus(other.x), y.minus(other.y));
    }

    Spot times(Fraction much) {
        return new Spot(x.times(much), y.times(much));
    }

    Fraction dot(Spot other) {
        return x.times(other.x).plus(y.times(other.y));
    }

    Fraction cross(Spot other) {
        return x.times(other.y).minus(y.times(other.x));
    }

    Spot left() {
        return new Spot(Fraction.ZERO.minus(y), x);
    }

    /** Whether the stretch from one to another has a place with this line, from - to, its ends left out. */
    static boolean blocks(Spot one, Spot other, Spot from, Spot to) {
        Spot way = to.minus(from);
        Spot wall = other.minus(one);
        Fraction turn = way.cross(wall);
        Spot gap = one.minus(from);
        if (turn.sign() != 0) {
            Fraction onLine = gap.cross(wall).over(turn);
            Fraction onWall = gap.cross(way).over(turn);
            return onLine.isInside(Fraction.ZERO, Fraction.ONE) && onWall.isBetween(Fraction.ZERO, Fraction.ONE);
        }
        if (gap.cross(way).sign() != 0) {
            return false;
        }
        Fraction a = gap.dot(way).over(way.dot(way));
        Fraction b = other.minus(from).dot(way).over(way.dot(way));
        Fraction low = a.compareTo(b) < 0 ? a : b;
        Fraction high = a.compareTo(b) < 0 ? b : a;
        return high.compareTo(Fraction.ZERO) > 0 && low.compareTo(Fraction.ONE) < 0;
    }
}
