import java.lang.reflect.Field;
import java.util.List;

/**
 * No call of the face can make a house that is not sound, so this test breaks what a house keeps, one number at a
 * time, and mends it again. It is the one test that knows how the state is held.
 */
public final class SoundTest {
    public static void main(String[] args) throws Exception {
        for (int at = 0; at < 2; at++) {
            breaks(kept(house(), "lots", at), "closed", 1);
            breaks(kept(house(), "lots", at), "thrown", 1);
            breaks(kept(house(), "lots", at), "used", -1);
            breaks(kept(house(), "jars", at), "left", -1);
            breaks(kept(house(), "blends", at), "shipped", 1);
            for (int what = 0; what < 3; what++) {
                breaksRow(kept(house(), "blends", at), "low", what, 100);
                breaksRow(kept(house(), "blends", at), "high", what, -1);
            }
            // With prices below 0 the whole jar costs less than a part of it.
            breaks(kept(house(), "offers", at), "price", -100);
        }
        Spicebourse house = house();
        for (int kitchen = 0; kitchen < 6; kitchen++) {
            breaksRow(new Kept(house, house), "gotGrams", kitchen, 99);
        }
        Runs.end();
    }

    /** A thing that a house keeps. */
    private static final class Kept {
        final Spicebourse house;
        final Object thing;

        Kept(Spicebourse house, Object thing) {
            this.house = house;
            this.thing = thing;
        }
    }

    private static Spicebourse house() {
        Spicebourse house = new Spicebourse();
        for (int i = 0; i < 2; i++) {
            house.addLot(i, 50, 50, 50, 50, 20, 2);
            house.openJar(i, false);
            house.fromJar(i, 10);
            house.mix();
            house.addBlend();
            house.test(i, i);
            house.ship(i, i, i * 5, 4);
            house.addOffer(i * 5, 50, 20, 2);
        }
        Runs.due("a house that is as it should be is sound", house.isSound(), true);
        return house;
    }

    private static Kept kept(Spicebourse house, String list, int at) throws Exception {
        return new Kept(house, ((List<?>) field(house, list).get(house)).get(at));
    }

    private static Field field(Object thing, String name) throws Exception {
        Field field = thing.getClass().getDeclaredField(name);
        field.setAccessible(true);
        return field;
    }

    private static void breaks(Kept kept, String name, int more) throws Exception {
        Field field = field(kept.thing, name);
        int was = field.getInt(kept.thing);
        field.setInt(kept.thing, was + more);
        Runs.due("sound with " + name + " and " + more + " more", kept.house.isSound(), false);
        field.setInt(kept.thing, was);
        Runs.due("sound with " + name + " as it was", kept.house.isSound(), true);
    }

    private static void breaksRow(Kept kept, String name, int at, int number) throws Exception {
        int[] row = (int[]) field(kept.thing, name).get(kept.thing);
        int was = row[at];
        row[at] = number;
        Runs.due("sound with " + number + " in " + name, kept.house.isSound(), false);
        row[at] = was;
        Runs.due("sound with " + name + " as it was", kept.house.isSound(), true);
    }
}
