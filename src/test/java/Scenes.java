/** Brings stores to where the document's rules part. */
final class Scenes {
    private Scenes() {
    }

    /** Rooms of these loads, wishes 0 and bounds 100; the other settings are the first ones. */
    static MeterRooms store(int... loads) {
        MeterRooms x = new MeterRooms();
        for (int load : loads) {
            x.add(load, 0, 100);
        }
        return x;
    }

    /** All rooms shut and as cold as can be: for 100 minutes no compressor runs or waits. */
    static void cool(MeterRooms x) {
        for (int i = 0; i < x.about(0); i++) {
            x.door(i, false);
            x.goods(i, -400);
        }
    }

    /**
     * Gives a room, which has no frost yet, so much of it. Behind it a quarter hour begins with a sum of 0,
     * and the rooms are shut and cold. The other rooms have less frost than 100, and keep it.
     */
    static void frost(MeterRooms x, int i, int frost) {
        int frostToDefrost = x.set(4, 100);
        int others = x.set(2, 0);
        cool(x);
        int minutes = frost % 2 + frost / 2;
        int wait = Math.floorMod(x.about(3) - minutes, 15);
        if (wait > 0) {
            x.run(wait);
        }
        if (frost % 2 == 1) {
            x.goods(i, 400);
            x.run(1);
            x.goods(i, -400);
        }
        if (frost >= 2) {
            x.door(i, true);
            x.run(frost / 2);
        }
        cool(x);
        x.set(2, others);
        x.set(4, frostToDefrost);
    }

    /** A room of this load, wish 0, bound 100, with so much frost; it is cold and shut. */
    static MeterRooms frosty(int load, int frost) {
        MeterRooms x = store(load);
        frost(x, 0, frost);
        return x;
    }

    /** A room that is being defrosted, with a frost of 40 and 5 minutes left. */
    static MeterRooms defrosted() {
        MeterRooms x = frosty(20, 50);
        x.run(1);
        return x;
    }
}
