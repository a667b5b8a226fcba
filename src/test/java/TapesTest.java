/** Promises 1 to 7: a new object, and tapes. */
public final class TapesTest {
    public static void main(String[] args) {
        newObject();
        tape();
        tapeTakesTheLowestFreeSlot();
        carry();
        carryRefuses();
        placeOf();
        filesAndStart();
        along();
        Check.end();
    }

    // Promise 1
    private static void newObject() {
        TapeRobotics x = new TapeRobotics();
        Check.noIndex("1: placeOf(0)", () -> x.placeOf(0));
        Check.noIndex("1: files(0)", () -> x.files(0));
        Check.noIndex("1: waiting(0)", () -> x.waiting(0));
        Check.noIndex("1: clock(0)", () -> x.clock(0));
        Check.noIndex("1: stands(0)", () -> x.stands(0));
        Check.due("1: next()", x.next(), TapeRobotics.NONE);
        Check.due("1: done()", x.done(), 0);
        Check.due("1: inventory()", x.inventory(), 0);
        TapeRobotics other = new TapeRobotics();
        other.tape(1, 4);
        Check.noIndex("1: placeOf(0) of another object", () -> x.placeOf(0));
    }

    // Promise 2
    private static void tape() {
        TapeRobotics x = new TapeRobotics();
        int[] wrongTracks = {0, 9, -1, Integer.MIN_VALUE, Integer.MAX_VALUE};
        for (int tracks : wrongTracks) {
            Check.noArgument("2: tape(" + tracks + ", 4)", () -> x.tape(tracks, 4));
        }
        int[] wrongLengths = {3, 201, 0, -4, Integer.MIN_VALUE, Integer.MAX_VALUE};
        for (int length : wrongLengths) {
            Check.noArgument("2: tape(1, " + length + ")", () -> x.tape(1, length));
        }
        Check.due("2: tape(1, 4)", x.tape(1, 4), 0);
        Check.due("2: tape(8, 200)", x.tape(8, 200), 1);
        Check.due("2: tape(1, 200)", x.tape(1, 200), 2);
        for (int number = 3; number < 8; number++) {
            Check.due("2: tape(8, 4)", x.tape(8, 4), number);
        }
        Check.due("2: placeOf(7)", x.placeOf(7), 7);
        Check.noState("2: a ninth tape", () -> x.tape(1, 4));
        Check.noArgument("2: a ninth tape of no tracks", () -> x.tape(0, 4));
        Check.noArgument("2: a ninth tape too long", () -> x.tape(1, 201));
        Check.noIndex("2: placeOf(8)", () -> x.placeOf(8));
    }

    private static void tapeTakesTheLowestFreeSlot() {
        TapeRobotics x = new TapeRobotics();
        x.tape(1, 4);
        x.tape(1, 4);
        x.carry(0, 2);
        x.tape(1, 4);
        Check.due("2: placeOf(2), in the slot that became free", x.placeOf(2), 0);
        x.tape(1, 4);
        Check.due("2: placeOf(3), behind the carried tape", x.placeOf(3), 3);
        x.drive(TapeRobotics.SWIFT);
        x.mount(0, 2);
        x.tape(1, 4);
        Check.due("2: placeOf(4), the slot 0 being kept for a mounted tape", x.placeOf(4), 4);
    }

    // Promise 3
    private static void carry() {
        TapeRobotics x = new TapeRobotics();
        x.tape(1, 4);
        x.tape(1, 4);
        Check.due("3: carry(0, 11)", x.carry(0, 11), 0);
        Check.due("3: placeOf(0)", x.placeOf(0), 11);
        Check.due("3: carry(1, 0)", x.carry(1, 0), 1);
        Check.due("3: carry(0, 1)", x.carry(0, 1), 11);
        Check.due("3: placeOf(0)", x.placeOf(0), 1);
        Check.due("3: placeOf(1)", x.placeOf(1), 0);
        x.lose(0);
        Check.due("3: carry(0, 7) without a label", x.carry(0, 7), 1);
    }

    private static void carryRefuses() {
        TapeRobotics x = new TapeRobotics();
        x.tape(1, 4);
        x.tape(1, 4);
        x.drive(TapeRobotics.SWIFT);
        int[] none = {-1, 2, 8, Integer.MIN_VALUE, Integer.MAX_VALUE};
        for (int tape : none) {
            Check.noIndex("3: carry(" + tape + ", 5)", () -> x.carry(tape, 5));
        }
        int[] wrongSlots = {-1, 12, Integer.MIN_VALUE, Integer.MAX_VALUE};
        for (int slot : wrongSlots) {
            Check.noIndex("3: carry(0, " + slot + ")", () -> x.carry(0, slot));
        }
        Check.noState("3: carry(0, 1), not free", () -> x.carry(0, 1));
        Check.noState("3: carry(0, 0), its own slot", () -> x.carry(0, 0));
        x.mount(0, 0);
        Check.noState("3: carry(0, 5) from a drive", () -> x.carry(0, 5));
        Check.noState("3: carry(1, 0), kept for a mounted tape", () -> x.carry(1, 0));
        Check.noIndex("3: carry(0, 12) from a drive", () -> x.carry(0, 12));
        Check.due("3: placeOf(0)", x.placeOf(0), -1);
        x.unmount(0);
        Check.due("3: placeOf(0)", x.placeOf(0), 0);
        Check.due("3: placeOf(1)", x.placeOf(1), 1);
        Check.due("3: carry(0, 5)", x.carry(0, 5), 0);
    }

    // Promise 4
    private static void placeOf() {
        TapeRobotics x = new TapeRobotics();
        for (int number = 0; number < 3; number++) {
            x.tape(1, 4);
            x.drive(TapeRobotics.STEADY);
        }
        Check.due("4: placeOf(2)", x.placeOf(2), 2);
        x.mount(0, 2);
        x.mount(2, 0);
        x.mount(1, 1);
        Check.due("4: placeOf(2) in the drive 0", x.placeOf(2), -1);
        Check.due("4: placeOf(1) in the drive 1", x.placeOf(1), -2);
        Check.due("4: placeOf(0) in the drive 2", x.placeOf(0), -3);
        x.unmount(0);
        Check.due("4: placeOf(2) unmounted", x.placeOf(2), 2);
        int[] none = {-1, 3, 8, Integer.MIN_VALUE, Integer.MAX_VALUE};
        for (int tape : none) {
            Check.noIndex("4: placeOf(" + tape + ")", () -> x.placeOf(tape));
        }
    }

    // Promises 5 and 6
    private static void filesAndStart() {
        TapeRobotics x = new TapeRobotics();
        x.tape(2, 200);
        x.tape(2, 200);
        x.drive(TapeRobotics.SWIFT);
        x.mount(0, 0);
        Check.due("5: files(0)", x.files(0), 0);
        Check.noIndex("6: start(0, 0) without files", () -> x.start(0, 0));
        int begin = 0;
        for (int file = 0; file < 10; file++) {
            x.write(0, file + 1);
            Check.due("5: files(0)", x.files(0), file + 1);
            Check.due("6: start(0, " + file + ")", x.start(0, file), begin);
            begin += file + 1;
        }
        Check.due("6: start(0, 0)", x.start(0, 0), 0);
        Check.due("6: start(0, 9)", x.start(0, 9), 45);
        Check.due("5: files(1)", x.files(1), 0);
        int[] noFiles = {-1, 10, 11, Integer.MIN_VALUE, Integer.MAX_VALUE};
        for (int file : noFiles) {
            Check.noIndex("6: start(0, " + file + ")", () -> x.start(0, file));
        }
        int[] none = {-1, 2, 8, Integer.MIN_VALUE, Integer.MAX_VALUE};
        for (int tape : none) {
            Check.noIndex("5: files(" + tape + ")", () -> x.files(tape));
            Check.noIndex("6: start(" + tape + ", 0)", () -> x.start(tape, 0));
        }
        Check.noIndex("6: start(1, 0)", () -> x.start(1, 0));
    }

    // Promise 7
    private static void along() {
        TapeRobotics x = new TapeRobotics();
        x.tape(3, 5);
        x.tape(8, 200);
        int[] due = {0, 1, 2, 3, 4, 4, 3, 2, 1, 0, 0, 1, 2, 3, 4};
        for (int place = 0; place < due.length; place++) {
            Check.due("7: along(0, " + place + ")", x.along(0, place), due[place]);
        }
        Check.due("7: along(1, 1399)", x.along(1, 1399), 199);
        Check.due("7: along(1, 1400)", x.along(1, 1400), 199);
        Check.due("7: along(1, 1599)", x.along(1, 1599), 0);
        int[] noPlaces = {-1, 15, 16, Integer.MIN_VALUE, Integer.MAX_VALUE};
        for (int place : noPlaces) {
            Check.noIndex("7: along(0, " + place + ")", () -> x.along(0, place));
        }
        Check.noIndex("7: along(1, 1600)", () -> x.along(1, 1600));
        int[] none = {-1, 2, 8, Integer.MIN_VALUE, Integer.MAX_VALUE};
        for (int tape : none) {
            Check.noIndex("7: along(" + tape + ", 0)", () -> x.along(tape, 0));
        }
    }
}
