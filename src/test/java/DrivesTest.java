/** Promises 8 to 15: drives. */
public final class DrivesTest {
    private static final int[] NO_DRIVES = {-1, 1, 3, Integer.MIN_VALUE, Integer.MAX_VALUE};

    public static void main(String[] args) {
        drive();
        mount();
        mountRefuses();
        unmount();
        write();
        writeRefuses();
        writeFillsTheTape();
        read();
        readRefuses();
        cleaning();
        cleanRefuses();
        clockAndStands();
        Check.end();
    }

    // Promise 8
    private static void drive() {
        TapeRobotics x = new TapeRobotics();
        int[] noMakes = {-1, 2, Integer.MIN_VALUE, Integer.MAX_VALUE};
        for (int make : noMakes) {
            Check.noArgument("8: drive(" + make + ")", () -> x.drive(make));
        }
        Check.due("8: drive(SWIFT)", x.drive(TapeRobotics.SWIFT), 0);
        Check.due("8: drive(STEADY)", x.drive(TapeRobotics.STEADY), 1);
        Check.noIndex("8: clock(2)", () -> x.clock(2));
        Check.due("8: drive(STEADY)", x.drive(TapeRobotics.STEADY), 2);
        Check.noState("8: a fourth drive", () -> x.drive(TapeRobotics.SWIFT));
        Check.noArgument("8: a fourth drive of no make", () -> x.drive(2));
        Check.noIndex("8: clock(3)", () -> x.clock(3));
        Check.due("8: clock(2)", x.clock(2), 0);
        Check.due("8: stands(2)", x.stands(2), TapeRobotics.NONE);
    }

    // Promise 9
    private static void mount() {
        TapeRobotics x = new TapeRobotics();
        for (int number = 0; number < 3; number++) {
            x.drive(TapeRobotics.SWIFT);
            x.tape(1, 4);
        }
        Check.due("9: mount(2, 0), eight steps", x.mount(2, 0), 36);
        Check.due("9: mount(1, 1), three steps", x.mount(1, 1), 26);
        x.carry(2, 11);
        Check.due("9: mount(0, 2), eleven steps", x.mount(0, 2), 42);
        Check.due("9: clock(2)", x.clock(2), 36);
        Check.due("9: clock(1)", x.clock(1), 26);
        Check.due("9: clock(0)", x.clock(0), 42);
        Check.due("9: stands(2)", x.stands(2), 0);
        x.unmount(0);
        x.carry(2, 8);
        x.unmount(2);
        Check.due("9: mount(2, 2), no step", x.mount(2, 2), 20);
        x.tape(1, 4);
        x.carry(3, 9);
        x.unmount(1);
        Check.due("9: mount(1, 3), five steps upwards", x.mount(1, 3), 30);
    }

    private static void mountRefuses() {
        TapeRobotics x = new TapeRobotics();
        x.drive(TapeRobotics.SWIFT);
        x.tape(1, 4);
        x.tape(1, 4);
        int[] noTapes = {-1, 2, 8, Integer.MIN_VALUE, Integer.MAX_VALUE};
        for (int drive : NO_DRIVES) {
            Check.noIndex("9: mount(" + drive + ", 0)", () -> x.mount(drive, 0));
        }
        for (int tape : noTapes) {
            Check.noIndex("9: mount(0, " + tape + ")", () -> x.mount(0, tape));
        }
        x.lose(0);
        Check.noState("9: mount(0, 0) without a label", () -> x.mount(0, 0));
        Check.due("9: clock(0)", x.clock(0), 0);
        x.inventory();
        x.mount(0, 0);
        Check.noState("9: mount(0, 1), the drive has a tape", () -> x.mount(0, 1));
        Check.noState("9: mount(0, 0) again", () -> x.mount(0, 0));
        Check.noIndex("9: mount(0, 2), the drive has a tape", () -> x.mount(0, 2));
        x.drive(TapeRobotics.SWIFT);
        Check.noState("9: mount(1, 0), the tape is in a drive", () -> x.mount(1, 0));
        Check.noIndex("9: mount(2, 0), the tape is in a drive", () -> x.mount(2, 0));
        Check.due("9: placeOf(0)", x.placeOf(0), -1);
        Check.due("9: placeOf(1)", x.placeOf(1), 1);
        Check.due("9: stands(1)", x.stands(1), TapeRobotics.NONE);
        Check.due("9: mount(1, 1)", x.mount(1, 1), 26);
    }

    // Promise 10
    private static void unmount() {
        TapeRobotics x = new TapeRobotics();
        x.drive(TapeRobotics.SWIFT);
        x.drive(TapeRobotics.STEADY);
        x.tape(3, 10);
        x.mount(0, 0);
        Check.due("10: unmount(0) at the place 0", x.unmount(0), 20);
        x.carry(0, 6);
        x.mount(0, 0);
        x.write(0, 13);
        Check.due("10: unmount(0), 6 back, a track, six slots", x.unmount(0), 6 + 9 + 20 + 12);
        Check.due("10: placeOf(0)", x.placeOf(0), 6);
        Check.due("10: stands(0)", x.stands(0), TapeRobotics.NONE);
        Check.due("10: clock(0)", x.clock(0), 20 + 20 + 32 + 39 + 47);
        x.mount(1, 0);
        x.read(1, 0);
        Check.due("10: unmount(1), 6 back, a track, two slots", x.unmount(1), 12 + 1 + 20 + 4);
        x.mount(1, 0);
        x.write(1, 17);
        Check.due("10: unmount(1) behind the last place", x.unmount(1), 18 + 2 + 20 + 4);
        for (int drive : new int[] {-1, 2, 3, Integer.MIN_VALUE, Integer.MAX_VALUE}) {
            Check.noIndex("10: unmount(" + drive + ")", () -> x.unmount(drive));
        }
        int before = x.clock(0);
        Check.noState("10: unmount(0) without a tape", () -> x.unmount(0));
        Check.due("10: clock(0)", x.clock(0), before);
    }

    // Promise 11
    private static void write() {
        TapeRobotics x = new TapeRobotics();
        x.drive(TapeRobotics.SWIFT);
        x.drive(TapeRobotics.STEADY);
        for (int drive = 0; drive < 2; drive++) {
            boolean swift = drive == 0;
            x.tape(4, 10);
            x.mount(drive, drive);
            Check.due("11: write 4", x.write(drive, 4), 12);
            Check.due("11: write 6", x.write(drive, 6), 18);
            Check.due("11: stands", x.stands(drive), 10);
            x.read(drive, 0);
            Check.due("11: write 3, from 4 to 9 and a track away", x.write(drive, 3), swift ? 5 + 9 + 9 : 10 + 1 + 9);
            Check.due("11: stands", x.stands(drive), 13);
            Check.due("11: start", x.start(drive, 2), 10);
            x.read(drive, 0);
            Check.due("11: write 1, from 4 to 6 and a track away", x.write(drive, 1), swift ? 2 + 9 + 3 : 4 + 1 + 3);
        }
        Check.due("11: clock(0)", x.clock(0), 20 + 12 + 18 + (9 + 9 + 12) + 23 + (6 + 9 + 12) + 14);
    }

    private static void writeRefuses() {
        TapeRobotics x = new TapeRobotics();
        x.drive(TapeRobotics.SWIFT);
        x.tape(1, 200);
        int[] wrongBlocks = {0, 101, -1, Integer.MIN_VALUE, Integer.MAX_VALUE};
        for (int drive : NO_DRIVES) {
            Check.noIndex("11: write(" + drive + ", 1)", () -> x.write(drive, 1));
            Check.noIndex("11: write(" + drive + ", 0)", () -> x.write(drive, 0));
        }
        for (int blocks : wrongBlocks) {
            Check.noArgument("11: write(0, " + blocks + ") without a tape", () -> x.write(0, blocks));
        }
        Check.noState("11: write(0, 1) without a tape", () -> x.write(0, 1));
        x.mount(0, 0);
        for (int blocks : wrongBlocks) {
            Check.noArgument("11: write(0, " + blocks + ")", () -> x.write(0, blocks));
        }
        for (int file = 0; file < 10; file++) {
            Check.due("11: write(0, 1)", x.write(0, 1), 3);
        }
        Check.noState("11: write(0, 1), an eleventh file", () -> x.write(0, 1));
        Check.noArgument("11: write(0, 101), an eleventh file", () -> x.write(0, 101));
        Check.due("11: files(0)", x.files(0), 10);
        Check.due("11: stands(0)", x.stands(0), 10);
        Check.due("11: clock(0)", x.clock(0), 50);
    }

    private static void writeFillsTheTape() {
        TapeRobotics x = new TapeRobotics();
        x.drive(TapeRobotics.STEADY);
        x.tape(1, 200);
        x.mount(0, 0);
        x.write(0, 100);
        x.write(0, 99);
        Check.noState("11: write(0, 2) with one place left", () -> x.write(0, 2));
        Check.due("11: files(0)", x.files(0), 2);
        Check.due("11: write(0, 1) with one place left", x.write(0, 1), 3);
        Check.due("11: stands(0)", x.stands(0), 200);
        Check.noState("11: write(0, 1) on a full tape", () -> x.write(0, 1));
        Check.due("11: read(0, 2), as if from the last place", x.read(0, 2), 3);
        Check.due("11: stands(0)", x.stands(0), 200);
    }

    // Promise 12
    private static void read() {
        TapeRobotics x = new TapeRobotics();
        x.drive(TapeRobotics.SWIFT);
        x.drive(TapeRobotics.STEADY);
        x.tape(2, 10);
        x.mount(0, 0);
        x.write(0, 7);
        x.write(0, 6);
        x.write(0, 7);
        Check.due("12: read(0, 1), from behind the last place", x.read(0, 1), 7 + 9 + 18);
        Check.due("12: stands(0)", x.stands(0), 13);
        Check.due("12: read(0, 2), on the spot", x.read(0, 2), 21);
        Check.due("12: read(0, 0), a track away", x.read(0, 0), 9 + 21);
        x.unmount(0);
        x.mount(1, 0);
        Check.due("12: read(1, 2), from 0 to 6 and a track away", x.read(1, 2), 12 + 1 + 21);
        Check.due("12: read(1, 1), from behind the last place", x.read(1, 1), 14 + 1 + 18);
        Check.due("12: clock(1)", x.clock(1), 28 + 34 + 33);
    }

    private static void readRefuses() {
        TapeRobotics x = new TapeRobotics();
        x.drive(TapeRobotics.SWIFT);
        x.tape(1, 10);
        for (int drive : NO_DRIVES) {
            Check.noIndex("12: read(" + drive + ", 0)", () -> x.read(drive, 0));
        }
        int[] noFiles = {-1, 1, 10, Integer.MIN_VALUE, Integer.MAX_VALUE};
        Check.noState("12: read(0, 0) without a tape", () -> x.read(0, 0));
        for (int file : noFiles) {
            Check.noState("12: read(0, " + file + ") without a tape", () -> x.read(0, file));
        }
        x.mount(0, 0);
        Check.noIndex("12: read(0, 0) without a file", () -> x.read(0, 0));
        x.write(0, 4);
        for (int file : noFiles) {
            Check.noIndex("12: read(0, " + file + ")", () -> x.read(0, file));
        }
        for (int time = 0; time < 11; time++) {
            x.read(0, 0);
        }
        int before = x.clock(0);
        Check.noState("12: read(0, 0) behind the 12th file", () -> x.read(0, 0));
        Check.noIndex("12: read(0, 1) behind the 12th file", () -> x.read(0, 1));
        Check.due("12: clock(0)", x.clock(0), before);
        Check.due("12: stands(0)", x.stands(0), 4);
    }

    // Promise 13, and what 11 and 12 say of cleaning
    private static void cleaning() {
        TapeRobotics x = new TapeRobotics();
        x.drive(TapeRobotics.SWIFT);
        x.drive(TapeRobotics.SWIFT);
        x.tape(1, 20);
        Check.due("13: clean(0), new", x.clean(0), 0);
        Check.due("13: clock(0)", x.clock(0), 50);
        x.mount(0, 0);
        x.write(0, 1);
        x.write(0, 1);
        x.read(0, 0);
        x.unmount(0);
        Check.due("13: clean(0), two written and one read", x.clean(0), 3);
        Check.due("13: clean(0) again", x.clean(0), 0);
        x.mount(0, 0);
        for (int file = 0; file < 12; file++) {
            Check.due("13: read(0, 0)", x.read(0, 0), file == 0 ? 3 : 4);
        }
        Check.noState("13: read(0, 0) behind the 12th file", () -> x.read(0, 0));
        Check.noState("13: write(0, 1) behind the 12th file", () -> x.write(0, 1));
        Check.noState("13: work(0) behind the 12th file", () -> x.work(0));
        x.unmount(0);
        x.mount(0, 0);
        Check.noState("13: read(0, 0), mounted anew", () -> x.read(0, 0));
        x.unmount(0);
        x.mount(1, 0);
        Check.due("13: read(1, 0) by the other drive", x.read(1, 0), 3);
        x.unmount(1);
        Check.due("13: clean(0)", x.clean(0), 12);
        Check.due("13: clean(1)", x.clean(1), 1);
        x.mount(0, 0);
        Check.due("13: read(0, 0), clean", x.read(0, 0), 3);
    }

    private static void cleanRefuses() {
        TapeRobotics x = new TapeRobotics();
        x.drive(TapeRobotics.STEADY);
        x.tape(1, 4);
        for (int drive : NO_DRIVES) {
            Check.noIndex("13: clean(" + drive + ")", () -> x.clean(drive));
        }
        x.mount(0, 0);
        x.write(0, 2);
        Check.noState("13: clean(0) with a tape", () -> x.clean(0));
        Check.due("13: clock(0)", x.clock(0), 26);
        x.unmount(0);
        Check.due("13: clean(0)", x.clean(0), 1);
    }

    // Promises 14 and 15
    private static void clockAndStands() {
        TapeRobotics x = new TapeRobotics();
        x.drive(TapeRobotics.SWIFT);
        x.tape(2, 4);
        for (int drive : NO_DRIVES) {
            Check.noIndex("14: clock(" + drive + ")", () -> x.clock(drive));
            Check.noIndex("15: stands(" + drive + ")", () -> x.stands(drive));
        }
        Check.due("14: clock(0), new", x.clock(0), 0);
        Check.due("15: stands(0), new", x.stands(0), TapeRobotics.NONE);
        x.mount(0, 0);
        Check.due("14: clock(0), mounted", x.clock(0), 20);
        Check.due("15: stands(0), mounted", x.stands(0), 0);
        x.write(0, 3);
        Check.due("14: clock(0), written", x.clock(0), 29);
        Check.due("15: stands(0), written", x.stands(0), 3);
        x.write(0, 5);
        Check.due("15: stands(0), behind the last place", x.stands(0), 8);
        x.read(0, 0);
        Check.due("14: clock(0), read", x.clock(0), 29 + 15 + 9 + 9);
        Check.due("15: stands(0), read", x.stands(0), 3);
        x.unmount(0);
        Check.due("14: clock(0), unmounted", x.clock(0), 62 + 3 + 20);
        Check.due("15: stands(0), unmounted", x.stands(0), TapeRobotics.NONE);
        x.clean(0);
        Check.due("14: clock(0), cleaned", x.clock(0), 135);
        x.mount(0, 0);
        Check.due("15: stands(0), mounted anew", x.stands(0), 0);
    }
}
