/** Promises 1 to 15, 25 and 26, and the 512 calls: each sentence that names a bound, from inside and outside. */
public final class EdgesTest {
    public static void main(String[] args) {
        newObject();
        objectsApart();
        lastOf512Calls();
        refusedCallsUseNothingUp();
        lowestFreeSlot();
        slotOfAMountedTape();
        carryAnswersTheSlotBefore();
        placeOf();
        files();
        startOfFirstAndLast();
        alongNeedsNoFile();
        mountAndUnmountAtTheBounds();
        unmountWhatever();
        writeToTheLastPlace();
        writeRange();
        readFirstAndLast();
        cleanAnswersHowMany();
        clockAndStands();
        loseCounts();
        inventoryWithoutTapesInSlots();
        inventoryToTheHighestSlot();
        inventoryFindsAllLabels();
        Check.end();
    }

    // Promise 1
    private static void newObject() {
        Check.sentence("1, a library without tapes and drives");
        TapeRobotics x = new TapeRobotics();
        for (int number : new int[] {0, 1, 2, 3, 7, 8}) {
            Check.noIndex("placeOf(" + number + ")", () -> x.placeOf(number));
            Check.noIndex("waiting(" + number + ")", () -> x.waiting(number));
            Check.noIndex("clock(" + number + ")", () -> x.clock(number));
            Check.noIndex("stands(" + number + ")", () -> x.stands(number));
            Check.noIndex("bestTime(" + number + ")", () -> x.bestTime(number));
        }
        Check.due("next()", x.next(), TapeRobotics.NONE);
        Check.due("done()", x.done(), 0);
        Check.due("inventory()", x.inventory(), 0);
        Check.due("tape(1, 4), the first", x.tape(1, 4), 0);
        Check.due("placeOf(0)", x.placeOf(0), 0);
        Check.due("drive(SWIFT), the first", x.drive(TapeRobotics.SWIFT), 0);
        x.mount(0, 0);
        x.write(0, 1);
        Check.due("job(0, 0, 0), the first", x.job(0, 0, 0), 0);
    }

    private static void objectsApart() {
        Check.sentence("1, a new object, others being in use");
        TapeRobotics one = Libraries.mixed();
        one.work(0);
        TapeRobotics other = new TapeRobotics();
        Check.noIndex("placeOf(0)", () -> other.placeOf(0));
        Check.noIndex("clock(0)", () -> other.clock(0));
        Check.due("done()", other.done(), 0);
        Check.same("behind another one's work", Probe.of(Libraries.mixed()), Probe.of(Libraries.mixed()));
    }

    private static void lastOf512Calls() {
        Check.sentence("What it is, an object is used for at most 512 calls");
        TapeRobotics x = new TapeRobotics();
        x.drive(TapeRobotics.STEADY);
        x.tape(1, 200);
        x.mount(0, 0);
        x.write(0, 100);
        x.unmount(0);
        int clock = 20 + 300 + 220;
        // 5 calls so far; 33 times 15 make 500.
        for (int time = 0; time < 33; time++) {
            Check.due("clean(0)", x.clean(0), time == 0 ? 1 : 12);
            Check.due("mount(0, 0)", x.mount(0, 0), 20);
            for (int file = 0; file < 12; file++) {
                Check.due("read(0, 0)", x.read(0, 0), file == 0 ? 300 : 500);
            }
            Check.due("unmount(0)", x.unmount(0), 220);
            clock += 50 + 20 + 5800 + 220;
        }
        x.clean(0);
        x.mount(0, 0);
        clock += 50 + 20;
        for (int job = 0; job < 7; job++) {
            Check.due("job(0, 0, 99999)", x.job(0, 0, 99999), job);
        }
        Check.due("bestTime(0), the 510th call", x.bestTime(0), 300 + 6 * 500);
        Check.due("work(0), the 511th call", x.work(0), 7);
        Check.due("clock(0), the 512th call", x.clock(0), clock + 3300);
    }

    private static void refusedCallsUseNothingUp() {
        Check.sentence("Terms, a call that throws changes nothing, however often");
        TapeRobotics x = Libraries.shelf(1);
        for (int time = 0; time < 70; time++) {
            Check.noArgument("job(0, 0, -1)", () -> x.job(0, 0, -1));
            Check.noArgument("tape(0, 4)", () -> x.tape(0, 4));
            Check.noArgument("drive(2)", () -> x.drive(2));
            Check.noState("write(0, 1)", () -> x.write(0, 1));
            Check.noState("read(0, 0)", () -> x.read(0, 0));
        }
        Check.due("job(0, 0, 0)", x.job(0, 0, 0), 0);
        Check.due("tape(1, 4)", x.tape(1, 4), 1);
        Check.due("drive(SWIFT)", x.drive(TapeRobotics.SWIFT), 1);
        Check.due("clean(0)", x.clean(0), 0);
    }

    // Promise 2
    private static void lowestFreeSlot() {
        Check.sentence("2, brings a tape into the lowest slot that is free");
        TapeRobotics x = new TapeRobotics();
        for (int tape = 0; tape < 8; tape++) {
            x.tape(1, 4);
            Check.due("placeOf(" + tape + ")", x.placeOf(tape), tape);
        }
        for (int freed = 0; freed < 7; freed++) {
            TapeRobotics y = Libraries.bare(7, 0);
            y.carry(freed, 11);
            y.tape(1, 4);
            Check.due("placeOf(7), the slot " + freed + " being free", y.placeOf(7), freed);
        }
        TapeRobotics z = Libraries.bare(3, 0);
        z.carry(0, 7);
        z.carry(2, 11);
        int[] due = {0, 2, 3, 4, 5};
        for (int tape = 3; tape < 8; tape++) {
            z.tape(1, 4);
            Check.due("placeOf(" + tape + ") with gaps", z.placeOf(tape), due[tape - 3]);
        }
    }

    private static void slotOfAMountedTape() {
        Check.sentence("2, a slot whose tape is in a drive is not free");
        TapeRobotics x = Libraries.bare(3, 3);
        for (int drive = 0; drive < 3; drive++) {
            x.mount(drive, drive);
        }
        x.tape(1, 4);
        Check.due("placeOf(3), all others being in drives", x.placeOf(3), 3);
        x.unmount(1);
        x.carry(1, 11);
        x.tape(1, 4);
        Check.due("placeOf(4), the slot 1 having become free", x.placeOf(4), 1);
    }

    // Promise 3
    private static void carryAnswersTheSlotBefore() {
        Check.sentence("3, returns the slot where it was");
        TapeRobotics x = Libraries.bare(2, 1);
        Check.due("carry(0, 11) from the first slot to the last", x.carry(0, 11), 0);
        Check.due("carry(0, 0) from the last slot to the first", x.carry(0, 0), 11);
        Check.due("carry(0, 11) again", x.carry(0, 11), 0);
        Check.due("carry(1, 0) to a slot that became free", x.carry(1, 0), 1);
        Check.due("carry(0, 1)", x.carry(0, 1), 11);
        Check.due("carry(1, 2)", x.carry(1, 2), 0);
        x.lose(0);
        Check.due("carry(0, 0) without a label", x.carry(0, 0), 1);
        Check.noState("carry(1, 0), taken again", () -> x.carry(1, 0));
        x.mount(0, 1);
        x.unmount(0);
        Check.due("carry(1, 3) out of a drive", x.carry(1, 3), 2);
    }

    // Promise 4
    private static void placeOf() {
        Check.sentence("4, returns its slot; or -1 less the number of the drive");
        TapeRobotics x = Libraries.bare(8, 3);
        for (int tape = 0; tape < 8; tape++) {
            Check.due("placeOf(" + tape + ")", x.placeOf(tape), tape);
        }
        for (int drive = 0; drive < 3; drive++) {
            x.mount(drive, 7 - drive);
            Check.due("placeOf(" + (7 - drive) + ") in a drive", x.placeOf(7 - drive), -1 - drive);
            Check.due("placeOf(" + drive + ")", x.placeOf(drive), drive);
        }
        x.carry(0, 11);
        Check.due("placeOf(0) in the last slot", x.placeOf(0), 11);
        x.lose(0);
        Check.due("placeOf(0) without a label", x.placeOf(0), 11);
        x.unmount(2);
        Check.due("placeOf(5), unmounted", x.placeOf(5), 5);
    }

    // Promise 5
    private static void files() {
        Check.sentence("5, returns how many files a tape has");
        TapeRobotics x = Libraries.bare(2, 1);
        Check.due("files(0), none yet", x.files(0), 0);
        x.mount(0, 0);
        Check.due("files(0), mounted", x.files(0), 0);
        for (int file = 0; file < 10; file++) {
            x.write(0, 1);
            Check.due("files(0)", x.files(0), file + 1);
        }
        x.read(0, 9);
        Check.due("files(0), one having been read", x.files(0), 10);
        Check.due("files(1), another tape", x.files(1), 0);
        x.unmount(0);
        x.lose(0);
        Check.due("files(0) without a label", x.files(0), 10);
    }

    // Promise 6
    private static void startOfFirstAndLast() {
        Check.sentence("6, returns the first place of a file, 0 for the first file");
        TapeRobotics x = Libraries.written(TapeRobotics.SWIFT, 5, 200, 100, 100, 100, 100, 100, 100, 100, 100, 100, 100);
        for (int file = 0; file < 10; file++) {
            Check.due("start(0, " + file + ")", x.start(0, file), 100 * file);
        }
        Check.noIndex("start(0, -1)", () -> x.start(0, -1));
        Check.noIndex("start(0, 10)", () -> x.start(0, 10));
        x.tape(1, 4);
        Check.noIndex("start(1, 0), none yet", () -> x.start(1, 0));
        x.unmount(0);
        x.mount(0, 1);
        x.write(0, 4);
        Check.due("start(1, 0), the one that fills it", x.start(1, 0), 0);
        Check.noIndex("start(1, 1)", () -> x.start(1, 1));
    }

    // Promise 7
    private static void alongNeedsNoFile() {
        Check.sentence("7, returns 0 up to the length less 1");
        TapeRobotics x = new TapeRobotics();
        x.drive(TapeRobotics.SWIFT);
        x.tape(1, 4);
        Check.due("along(0, 0), nothing being written", x.along(0, 0), 0);
        Check.due("along(0, 3), nothing being written", x.along(0, 3), 3);
        x.mount(0, 0);
        x.write(0, 4);
        Check.due("along(0, 3) in a drive", x.along(0, 3), 3);
        Check.noIndex("along(0, 4), where the drive stands", () -> x.along(0, 4));
        x.unmount(0);
        x.lose(0);
        Check.due("along(0, 3) without a label", x.along(0, 3), 3);
        x.tape(8, 4);
        Check.due("along(1, 31), on a tape with more places", x.along(1, 31), 0);
        Check.noIndex("along(0, 31)", () -> x.along(0, 31));
    }

    // Promises 9 and 10
    private static void mountAndUnmountAtTheBounds() {
        Check.sentence("9 and 10, returns the time that it takes");
        TapeRobotics x = Libraries.bare(8, 3);
        x.carry(0, 11);
        Check.due("mount(0, 0), the longest way", x.mount(0, 0), 42);
        Check.due("unmount(0), the longest way", x.unmount(0), 42);
        Check.due("mount(1, 4), the shortest way", x.mount(1, 4), 20);
        Check.due("unmount(1), the shortest way", x.unmount(1), 20);
        Check.due("mount(2, 1)", x.mount(2, 1), 34);
        Check.due("clock(0)", x.clock(0), 84);
        Check.due("clock(1)", x.clock(1), 40);
        Check.due("clock(2)", x.clock(2), 34);
    }

    private static void unmountWhatever() {
        Check.sentence("10, throws IllegalStateException if it has no tape, and nothing else then");
        TapeRobotics unclean = Libraries.unclean();
        Check.due("unmount(0), wanting cleaning, behind the place 2 of 5 a track", unclean.unmount(0), 3 + 20 + 2);
        Check.noState("unmount(0) again", () -> unclean.unmount(0));
        TapeRobotics full = Libraries.fullTape();
        Check.due("unmount(0) behind a full tape of three tracks", full.unmount(0), 4 + 18 + 20 + 2);
        TapeRobotics bare = Libraries.bare(1, 1);
        bare.mount(0, 0);
        Check.due("unmount(0) of a tape without files", bare.unmount(0), 20);
        Check.due("mount(0, 0), and again", bare.mount(0, 0), 20);
    }

    // Promise 11
    private static void writeToTheLastPlace() {
        Check.sentence("11, IllegalStateException if the tape has too few places");
        for (int left = 1; left < 100; left++) {
            int most = left;
            TapeRobotics x = Libraries.written(TapeRobotics.SWIFT, 1, 200, 100, 100 - left);
            Check.noState("write(0, " + (left + 1) + ") with " + left + " places left", () -> x.write(0, most + 1));
            Check.due("write(0, " + left + ") with as many places left", x.write(0, left), 3 * left);
            Check.due("stands(0), the tape being full", x.stands(0), 200);
            Check.noState("write(0, 1) on a full tape", () -> x.write(0, 1));
            Check.due("files(0)", x.files(0), 3);
        }
        TapeRobotics z = Libraries.written(TapeRobotics.SWIFT, 1, 200, 100);
        Check.due("write(0, 100) with as many places left", z.write(0, 100), 300);
        TapeRobotics x = Libraries.written(TapeRobotics.STEADY, 1, 4);
        Check.noState("write(0, 5) on the smallest tape", () -> x.write(0, 5));
        Check.due("write(0, 4) on the smallest tape", x.write(0, 4), 12);
        TapeRobotics y = Libraries.written(TapeRobotics.SWIFT, 2, 5, 1, 1, 1, 1, 1, 1, 1, 1, 1);
        Check.due("write(0, 1), the 10th file on the 10th place", y.write(0, 1), 3);
        Check.due("unmount(0), behind the last place", y.unmount(0), 9 + 20);
    }

    private static void writeRange() {
        Check.sentence("11, blocks: 1 to 100");
        TapeRobotics x = Libraries.written(TapeRobotics.SWIFT, 8, 200);
        Check.noArgument("write(0, 0)", () -> x.write(0, 0));
        Check.noArgument("write(0, 101)", () -> x.write(0, 101));
        Check.due("write(0, 1)", x.write(0, 1), 3);
        Check.due("write(0, 100)", x.write(0, 100), 300);
        x.read(0, 0);
        Check.due("write(0, 1), the way to its first place included", x.write(0, 1), 100 + 3);
        Check.due("write(0, 98), no way", x.write(0, 98), 294);
        Check.due("stands(0), the next track", x.stands(0), 200);
        x.read(0, 0);
        Check.due("write(0, 1), a track away", x.write(0, 1), 198 + 9 + 3);
    }

    // Promise 12
    private static void readFirstAndLast() {
        Check.sentence("12, returns the time that it takes, the way to its first place included");
        TapeRobotics x = Libraries.written(TapeRobotics.SWIFT, 1, 200, 100, 1, 1, 1, 1, 1, 1, 1, 1, 1);
        Check.due("read(0, 0), the first file", x.read(0, 0), 109 + 300);
        Check.due("read(0, 9), the last file and the 12th", x.read(0, 9), 8 + 3);
        Check.noState("read(0, 9), the 13th", () -> x.read(0, 9));
        Check.noIndex("read(0, 10)", () -> x.read(0, 10));
        Check.noIndex("read(0, -1)", () -> x.read(0, -1));
        Check.due("stands(0)", x.stands(0), 109);
        Check.due("clock(0)", x.clock(0), 20 + 327 + 409 + 11);
    }

    // Promise 13
    private static void cleanAnswersHowMany() {
        Check.sentence("13, returns how many files it had read and written since it was cleaned");
        for (int files = 0; files <= 12; files++) {
            TapeRobotics x = Libraries.written(TapeRobotics.STEADY, 1, 10);
            for (int file = 0; file < files; file++) {
                int time = file < 5 ? x.write(0, 1) : x.read(0, 0);
                Check.due("write or read, file " + file, time > 0 ? 1 : 0, 1);
            }
            x.unmount(0);
            Check.due("clean(0) behind " + files, x.clean(0), files);
            Check.due("clean(0) again", x.clean(0), 0);
        }
    }

    // Promises 14 and 15
    private static void clockAndStands() {
        Check.sentence("14 and 15, returns the clock, and the place; NONE without a tape");
        TapeRobotics x = Libraries.bare(1, 3);
        for (int drive = 0; drive < 3; drive++) {
            Check.due("clock(" + drive + "), new", x.clock(drive), 0);
            Check.due("stands(" + drive + "), new", x.stands(drive), TapeRobotics.NONE);
        }
        x.mount(2, 0);
        Check.due("stands(2), mounted", x.stands(2), 0);
        Check.due("stands(1), another drive", x.stands(1), TapeRobotics.NONE);
        x.write(2, 20);
        Check.due("stands(2), behind the last place", x.stands(2), 20);
        x.unmount(2);
        Check.due("stands(2), unmounted", x.stands(2), TapeRobotics.NONE);
        x.clean(2);
        Check.due("stands(2), cleaned", x.stands(2), TapeRobotics.NONE);
        Check.due("clock(2)", x.clock(2), 36 + 60 + 9 + 36 + 50);
    }

    // Promise 25
    private static void loseCounts() {
        Check.sentence("25, returns how many tapes are without labels then");
        TapeRobotics x = Libraries.bare(8, 1);
        for (int lost = 0; lost < 8; lost++) {
            int tape = 7 - lost;
            Check.due("lose(" + tape + ")", x.lose(tape), lost + 1);
            Check.noState("lose(" + tape + ") again", () -> x.lose(tape));
            Check.noState("mount(0, " + tape + ")", () -> x.mount(0, tape));
        }
        x.inventory();
        x.mount(0, 0);
        Check.noState("lose(0) in a drive", () -> x.lose(0));
        Check.due("lose(7), the first again", x.lose(7), 1);
        x.unmount(0);
        Check.due("lose(0), unmounted", x.lose(0), 2);
    }

    // Promise 26
    private static void inventoryWithoutTapesInSlots() {
        Check.sentence("26, 0 if no tape is in a slot");
        TapeRobotics x = Libraries.bare(0, 3);
        Check.due("inventory() without tapes", x.inventory(), 0);
        for (int drive = 0; drive < 3; drive++) {
            x.tape(1, 4);
            x.carry(drive, 11 - drive);
            x.mount(drive, drive);
            Check.due("inventory(), all tapes being in drives", x.inventory(), 0);
        }
        x.unmount(1);
        Check.due("inventory(), a tape being back in the slot 10", x.inventory(), 20);
    }

    private static void inventoryToTheHighestSlot() {
        Check.sentence("26, 2 for each step from the slot 0 to the highest slot in which there is a tape");
        for (int slot = 0; slot < 12; slot++) {
            TapeRobotics x = Libraries.bare(1, 3);
            if (slot > 0) {
                x.carry(0, slot);
            }
            Check.due("inventory() to the slot " + slot, x.inventory(), 2 * slot);
            Check.due("inventory() again", x.inventory(), 2 * slot);
            x.lose(0);
            Check.due("inventory(), it being lost", x.inventory(), 2 * slot + 5);
            x.tape(1, 4);
            Check.due("inventory(), the highest of two", x.inventory(), 2 * Math.max(1, slot));
            x.mount(0, 0);
            Check.due("inventory(), only the other one in a slot", x.inventory(), slot == 0 ? 2 : 0);
        }
    }

    private static void inventoryFindsAllLabels() {
        Check.sentence("26, and finds all labels; 5 for each tape that was without one");
        for (int lost = 0; lost <= 8; lost++) {
            TapeRobotics x = Libraries.bare(8, 3);
            for (int tape = 0; tape < lost; tape++) {
                x.lose(tape);
            }
            Check.due("inventory(), " + lost + " lost", x.inventory(), 14 + 5 * lost);
            Check.due("inventory() again, none lost", x.inventory(), 14);
            for (int drive = 0; drive < 3; drive++) {
                Check.due("clock(" + drive + ")", x.clock(drive), 0);
            }
            for (int tape = 0; tape < 8; tape++) {
                Check.due("mount(0, " + tape + ")", x.mount(0, tape), 20 + 2 * tape);
                x.unmount(0);
            }
        }
    }
}
