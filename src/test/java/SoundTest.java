import java.lang.reflect.Array;
import java.lang.reflect.Field;

/** Promise 30, where it answers false: no call leads there, so the fields inside are spoilt by hand. */
public final class SoundTest {
    public static void main(String[] args) throws ReflectiveOperationException {
        Seatrush house = house();
        expect(house, true, "a house that nobody spoilt");
        spoilMoney();
        spoilSeats();
        spoilHolds();
        spoilShares();
        spoilQueue();
        Script.end();
    }

    /** The buyer 0 has four sold seats in the row 0, and holds the two seats of the row 1; the buyer 5 waits. */
    private static Seatrush house() {
        Seatrush house = new Seatrush();
        house.addRow(6, 0, 50);
        house.addRow(2, 0, 0);
        house.addNight();
        house.join(0);
        house.tick(1);
        house.hold(0, 0, 4);
        house.pay(0, 0, 1);
        house.tick(1);
        house.setFree(0, 0, 4, false);
        house.setFree(0, 0, 5, false);
        house.hold(0, 0, 2);
        house.join(5);
        return house;
    }

    private static void spoilMoney() throws ReflectiveOperationException {
        Seatrush house = house();
        field(house, "paidMoney").setLong(house, 41);
        expect(house, false, "money that no seat was paid with");
        field(house, "paidMoney").setLong(house, 40);
        expect(house, true, "the money of before");
        Array.setInt(inside(night(house), "payments"), 0, 9);
        expect(house, false, "a seat that was paid less");
    }

    private static void spoilSeats() throws ReflectiveOperationException {
        Seatrush house = house();
        Array.setChar(inside(night(house), "states"), 4, 'h');
        expect(house, false, "a held seat without a hold");
        house = house();
        Array.setChar(inside(night(house), "states"), 11, 'f');
        expect(house, false, "a free seat of a hold");
        house = house();
        Array.setChar(inside(night(house), "states"), 10, 'k');
        expect(house, false, "a seat of a hold out of use");
    }

    private static void spoilHolds() throws ReflectiveOperationException {
        Seatrush house = house();
        Object cart = cart(house, 19);
        field(cart, "row").setInt(cart, 1);
        field(cart, "first").setInt(cart, 1);
        field(cart, "people").setInt(cart, 1);
        expect(house, true, "an empty cart");
        field(cart, "isHeld").setBoolean(cart, true);
        expect(house, false, "two holds of one seat");
        field(cart, "first").setInt(cart, 2);
        expect(house, false, "a hold of a seat that is not there");
    }

    private static void spoilShares() throws ReflectiveOperationException {
        Seatrush house = house();
        Object states = inside(night(house), "states");
        Object payments = inside(night(house), "payments");
        Array.setChar(states, 4, 's');
        Array.setInt(payments, 4, 0);
        expect(house, false, "seven seats of one buyer");
        Array.setInt(inside(night(house), "owners"), 4, 1);
        expect(house, true, "six seats, and one of another buyer");
    }

    private static void spoilQueue() throws ReflectiveOperationException {
        Seatrush house = house();
        Array.setBoolean(inside(field(house, "queue").get(house), "areIn"), 5, true);
        expect(house, false, "one who is in and waits");
    }

    private static Object night(Seatrush house) throws ReflectiveOperationException {
        return Array.get(inside(house, "nights"), 0);
    }

    private static Object cart(Seatrush house, int buyer) throws ReflectiveOperationException {
        return Array.get(inside(house, "carts"), buyer);
    }

    private static Object inside(Object owner, String name) throws ReflectiveOperationException {
        return field(owner, name).get(owner);
    }

    private static Field field(Object owner, String name) throws ReflectiveOperationException {
        Field field = owner.getClass().getDeclaredField(name);
        field.setAccessible(true);
        return field;
    }

    private static void expect(Seatrush house, boolean want, String text) {
        if (house.isSound() != want) {
            Script.fault("promise 30: " + text + ": isSound() answered " + !want);
        }
    }
}
