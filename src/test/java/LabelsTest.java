/** Promises 25 and 26: labels. */
public final class LabelsTest {
    public static void main(String[] args) {
        lose();
        loseRefuses();
        inventory();
        inventoryLeavesDrivesAlone();
        Check.end();
    }

    // Promise 25
    private static void lose() {
        TapeRobotics x = new TapeRobotics();
        x.drive(TapeRobotics.SWIFT);
        for (int tape = 0; tape < 3; tape++) {
            x.tape(1, 4);
        }
        Check.due("25: lose(1)", x.lose(1), 1);
        Check.due("25: lose(0)", x.lose(0), 2);
        Check.noState("25: mount(0, 1)", () -> x.mount(0, 1));
        Check.due("25: mount(0, 2)", x.mount(0, 2), 24);
        Check.due("25: placeOf(1)", x.placeOf(1), 1);
        x.inventory();
        Check.due("25: lose(1) again, the labels having been found", x.lose(1), 1);
    }

    private static void loseRefuses() {
        TapeRobotics x = new TapeRobotics();
        x.drive(TapeRobotics.SWIFT);
        x.tape(1, 4);
        x.tape(1, 4);
        int[] noTapes = {-1, 2, 8, Integer.MIN_VALUE, Integer.MAX_VALUE};
        for (int tape : noTapes) {
            Check.noIndex("25: lose(" + tape + ")", () -> x.lose(tape));
        }
        x.mount(0, 0);
        Check.noState("25: lose(0) in a drive", () -> x.lose(0));
        Check.due("25: lose(1), the first", x.lose(1), 1);
        Check.noState("25: lose(1) again", () -> x.lose(1));
        x.unmount(0);
        Check.due("25: mount(0, 0), its label being kept", x.mount(0, 0), 20);
        x.unmount(0);
        Check.due("25: lose(0)", x.lose(0), 2);
    }

    // Promise 26
    private static void inventory() {
        TapeRobotics x = new TapeRobotics();
        Check.due("26: inventory() without tapes", x.inventory(), 0);
        x.tape(1, 4);
        Check.due("26: inventory(), a tape in the slot 0", x.inventory(), 0);
        x.lose(0);
        Check.due("26: inventory(), a lost one in the slot 0", x.inventory(), 5);
        x.tape(1, 4);
        x.tape(1, 4);
        x.carry(0, 11);
        Check.due("26: inventory() to the slot 11", x.inventory(), 22);
        x.lose(0);
        x.lose(2);
        Check.due("26: inventory(), two lost", x.inventory(), 22 + 10);
        Check.due("26: inventory(), none lost any more", x.inventory(), 22);
        x.drive(TapeRobotics.SWIFT);
        Check.due("26: mount(0, 2), its label being found", x.mount(0, 2), 24);
    }

    private static void inventoryLeavesDrivesAlone() {
        TapeRobotics x = new TapeRobotics();
        x.drive(TapeRobotics.SWIFT);
        x.drive(TapeRobotics.SWIFT);
        x.tape(1, 4);
        x.tape(1, 4);
        x.carry(1, 9);
        x.mount(0, 1);
        x.lose(0);
        x.carry(0, 3);
        int clock = x.clock(0);
        Check.due("26: inventory(), the highest tape being in a drive", x.inventory(), 6 + 5);
        Check.due("26: clock(0)", x.clock(0), clock);
        Check.due("26: clock(1)", x.clock(1), 0);
        Check.due("26: placeOf(1)", x.placeOf(1), -1);
        x.mount(1, 0);
        Check.due("26: inventory() with all tapes in drives", x.inventory(), 0);
    }
}
