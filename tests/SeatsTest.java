import java.util.function.Supplier;

/** Promises 9 to 15: seats, and cards in ink. */
public final class SeatsTest {
    private static final Check check = new Check("SeatsTest");

    public static void main(String[] args) {
        sit();
        sitRefused();
        rise();
        seatOfAndAt();
        swap();
        swapRefused();
        inkAndTear();
        inkHolds();
        check.end();
    }

    private static void sit() {
        Placecard house = House.withTables("r3 l4");
        House.invite(house, 4);
        check.due("sit(2, 1, 3)", house.sit(2, 1, 3), 1);
        check.due("sit(0, 1, 0)", house.sit(0, 1, 0), 2);
        check.due("sit(1, 0, 2)", house.sit(1, 0, 2), 1);
        check.due("sit(2, 1, 1), from the same table", house.sit(2, 1, 1), 2);
        check.due("sit(0, 0, 0), from another table", house.sit(0, 0, 0), 2);
        check.due("sit(3, 1, 3), the seat left", house.sit(3, 1, 3), 2);
        check.due("at(1, 1)", house.at(1, 1), 2);
        check.refused("at(1, 0), the seat left", Check.ELEMENT, () -> house.at(1, 0));
    }

    private static void sitRefused() {
        check.refused("sit(-1, 0, 1)", Check.BOUNDS, House::full, x -> x.sit(-1, 0, 1));
        check.refused("sit(15, 0, 1)", Check.BOUNDS, House::full, x -> x.sit(15, 0, 1));
        check.refused("sit(8, -1, 1)", Check.BOUNDS, House::full, x -> x.sit(8, -1, 1));
        check.refused("sit(8, 3, 1)", Check.BOUNDS, House::full, x -> x.sit(8, 3, 1));
        check.refused("sit(8, 3, 99)", Check.BOUNDS, House::full, x -> x.sit(8, 3, 99));
        check.refused("sit(15, 0, 99)", Check.BOUNDS, House::full, x -> x.sit(15, 0, 99));
        check.refused("sit(8, 2, 2)", Check.ELEMENT, House::full, x -> x.sit(8, 2, 2));
        check.refused("sit(8, 2, -1)", Check.ELEMENT, House::full, x -> x.sit(8, 2, -1));
        check.refused("sit(14, 2, 2), invited", Check.ELEMENT, House::full, x -> x.sit(14, 2, 2));
        check.refused("sit(14, 2, 0), invited", Check.UNSUPPORTED, House::full, x -> x.sit(14, 2, 0));
        check.refused("sit(13, 2, 0), a no", Check.UNSUPPORTED, House::full, x -> x.sit(13, 2, 0));
        check.refused("sit(12, 2, 0), waiting", Check.UNSUPPORTED, House::full, x -> x.sit(12, 2, 0));
        check.refused("sit(2, 2, 0), in ink", Check.UNSUPPORTED, House::full, x -> x.sit(2, 2, 0));
        check.refused("sit(8, 2, 1), taken", Check.UNSUPPORTED, House::full, x -> x.sit(8, 2, 1));
        check.refused("sit(7, 2, 1), the same seat", Check.UNSUPPORTED, House::full, x -> x.sit(7, 2, 1));
    }

    private static void rise() {
        Placecard house = House.full();
        check.due("rise(5)", house.rise(5), 1);
        check.due("rise(7)", house.rise(7), 2);
        check.due("rise(0)", house.rise(0), 0);
        check.due("stateOf(5) after it", house.stateOf(5), 'c');
        check.refused("seatOf(5) after it", Check.ELEMENT, () -> house.seatOf(5));
        check.refused("rise(5) again", Check.UNSUPPORTED, () -> house.rise(5));
        check.due("sit(8, 1, 3), the seat left", house.sit(8, 1, 3), 2);
        check.refused("rise(-1)", Check.BOUNDS, House::full, x -> x.rise(-1));
        check.refused("rise(15)", Check.BOUNDS, House::full, x -> x.rise(15));
        check.refused("rise(8), who stands", Check.UNSUPPORTED, House::full, x -> x.rise(8));
        check.refused("rise(14), invited", Check.UNSUPPORTED, House::full, x -> x.rise(14));
        check.refused("rise(2), in ink", Check.UNSUPPORTED, House::full, x -> x.rise(2));
    }

    private static void seatOfAndAt() {
        Placecard house = House.full();
        check.due("seatOf(0)", house.seatOf(0), 0);
        check.due("seatOf(4)", house.seatOf(4), 3);
        check.due("seatOf(5)", house.seatOf(5), 103);
        check.due("seatOf(7)", house.seatOf(7), 201);
        check.due("at(0, 3)", house.at(0, 3), 4);
        check.due("at(1, 0)", house.at(1, 0), 6);
        check.due("at(2, 1)", house.at(2, 1), 7);
        check.refused("seatOf(-1)", Check.BOUNDS, House::full, x -> x.seatOf(-1));
        check.refused("seatOf(15)", Check.BOUNDS, House::full, x -> x.seatOf(15));
        check.refused("seatOf(8)", Check.ELEMENT, House::full, x -> x.seatOf(8));
        check.refused("at(-1, 0)", Check.BOUNDS, House::full, x -> x.at(-1, 0));
        check.refused("at(3, 0)", Check.BOUNDS, House::full, x -> x.at(3, 0));
        check.refused("at(3, 10)", Check.BOUNDS, House::full, x -> x.at(3, 10));
        check.refused("at(1, 4)", Check.ELEMENT, House::full, x -> x.at(1, 4));
        check.refused("at(1, -1)", Check.ELEMENT, House::full, x -> x.at(1, -1));
        check.refused("at(1, 1), free", Check.ELEMENT, House::full, x -> x.at(1, 1));
    }

    private static void swap() {
        Placecard house = House.seated('h', 0, 1, 2, 3);
        house.addCondition('b', 0, 3, 5);
        check.due("swap(1, 3), the loss less", house.swap(1, 3), true);
        check.due("at(0, 1)", house.at(0, 1), 3);
        check.due("at(0, 3)", house.at(0, 3), 1);
        check.due("swap(3, 1), the loss more", house.swap(3, 1), false);
        check.due("swap(1, 2), the loss alike", house.swap(1, 2), false);
        check.due("loss()", house.loss(), 5);

        Placecard hard = House.seated('h', 0, 1, 2);
        hard.addCondition('b', 0, 2, 0);
        check.due("swap(1, 2), less hard ones broken", hard.swap(1, 2), false);
        check.due("broken()", hard.broken(), 0);

        Placecard tables = House.full();
        tables.swap(5, 7);
        check.due("seatOf(5) at the other's table", tables.seatOf(5), 201);
        check.due("seatOf(7) at the other's table", tables.seatOf(7), 103);
        check.due("at(1, 3)", tables.at(1, 3), 7);
        check.due("at(2, 1)", tables.at(2, 1), 5);
    }

    private static void swapRefused() {
        check.refused("swap(-1, 0)", Check.BOUNDS, House::full, x -> x.swap(-1, 0));
        check.refused("swap(0, -1)", Check.BOUNDS, House::full, x -> x.swap(0, -1));
        check.refused("swap(15, 15)", Check.BOUNDS, House::full, x -> x.swap(15, 15));
        check.refused("swap(8, 15), who stands", Check.BOUNDS, House::full, x -> x.swap(8, 15));
        check.refused("swap(0, 8), who stands", Check.UNSUPPORTED, House::full, x -> x.swap(0, 8));
        check.refused("swap(8, 0), who stands", Check.UNSUPPORTED, House::full, x -> x.swap(8, 0));
        check.refused("swap(8, 9), who stand", Check.UNSUPPORTED, House::full, x -> x.swap(8, 9));
        check.refused("swap(2, 0), in ink", Check.UNSUPPORTED, House::full, x -> x.swap(2, 0));
        check.refused("swap(0, 2), in ink", Check.UNSUPPORTED, House::full, x -> x.swap(0, 2));
        check.refused("swap(0, 0), the same", Check.UNSUPPORTED, House::full, x -> x.swap(0, 0));
    }

    private static void inkAndTear() {
        Placecard house = House.full();
        check.due("ink(0)", house.ink(0), 3);
        check.due("ink(7)", house.ink(7), 4);
        check.due("tear(2)", house.tear(2), 3);
        check.due("ink(2) again", house.ink(2), 4);
        check.due("tear(6)", house.tear(6), 3);
        check.due("rise(6), torn", house.rise(6), 1);
        check.refused("ink(-1)", Check.BOUNDS, House::full, x -> x.ink(-1));
        check.refused("ink(15)", Check.BOUNDS, House::full, x -> x.ink(15));
        check.refused("ink(2), which is", Check.UNSUPPORTED, House::full, x -> x.ink(2));
        check.refused("ink(8), who stands", Check.UNSUPPORTED, House::full, x -> x.ink(8));
        check.refused("tear(-1)", Check.BOUNDS, House::full, x -> x.tear(-1));
        check.refused("tear(15)", Check.BOUNDS, House::full, x -> x.tear(15));
        check.refused("tear(0), which is not", Check.UNSUPPORTED, House::full, x -> x.tear(0));
        check.refused("tear(8), who stands", Check.UNSUPPORTED, House::full, x -> x.tear(8));
    }

    private static void inkHolds() {
        Supplier<Placecard> held = () -> {
            Placecard house = House.seated('h', 0, 1, -1);
            house.ink(1);
            return house;
        };
        check.refused("sit(1, 0, 2), held", Check.UNSUPPORTED, held, x -> x.sit(1, 0, 2));
        check.refused("rise(1), held", Check.UNSUPPORTED, held, x -> x.rise(1));
        check.refused("swap(1, 0), held", Check.UNSUPPORTED, held, x -> x.swap(1, 0));
        Placecard house = held.get();
        check.due("reply(1, false), held", house.reply(1, false), 'n');
        check.due("reply(1, true)", house.reply(1, true), 'c');
        check.due("sit(1, 0, 2), no card any more", house.sit(1, 0, 2), 2);
        check.due("rise(1)", house.rise(1), 0);
    }
}
