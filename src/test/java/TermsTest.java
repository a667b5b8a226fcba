/** The section 'Terms', sentence by sentence, where it names a bound: the last on each side of it. */
public final class TermsTest {
    // Of a tape of 8 tracks of 4 places: the track of each place, and how far along the tape it lies.
    private static final String TRACKS = "00001111222233334444555566667777";
    private static final String ALONG = "01233210012332100123321001233210";
    private static final int[] PACE = {1, 2};
    private static final int[] STEP = {9, 1};

    public static void main(String[] args) {
        atMostEightTapes();
        tracksOfOneLength();
        alongEachPlace();
        alongTheLongestTape();
        trackOfEachPlace();
        filesOneBehindTheOther();
        atMostTenFiles();
        behindAFullTape();
        behindAFullTapeInOrders();
        behindTheEndOfATrack();
        atMostThreeDrives();
        fromEachPlaceToEach();
        threeForABlock();
        mountedAtThePlaceZero();
        clockGrowsByAllThatADriveDoes();
        clockStandsStillOtherwise();
        twelveFiles();
        twelveFilesOfEachKind();
        twelveFilesOfEachDrive();
        cleaningTakesFifty();
        twelveSlots();
        robotBetweenEachDriveAndSlot();
        backToItsSlot();
        atMostSixtyJobs();
        atMostSevenAtATape();
        Check.end();
    }

    private static int digit(String row, int place) {
        return row.charAt(place) - '0';
    }

    /** The way between two places of a tape of tracks of 4 places. */
    private static int way(int make, int from, int to) {
        int distance = Math.abs(digit(ALONG, from) - digit(ALONG, to));
        int tracks = Math.abs(digit(TRACKS, from) - digit(TRACKS, to));
        return distance * PACE[make] + tracks * STEP[make];
    }

    private static void atMostEightTapes() {
        Check.sentence("Terms, at most 8 tapes, numbered from 0");
        TapeRobotics x = new TapeRobotics();
        for (int tape = 0; tape < 8; tape++) {
            int next = tape;
            Check.noIndex("files(" + tape + ") before it came", () -> x.files(next));
            Check.due("tape(1, 4)", x.tape(1, 4), tape);
            Check.due("files(" + tape + ")", x.files(tape), 0);
        }
        Check.noState("the 9th tape", () -> x.tape(1, 4));
        Check.noIndex("files(8)", () -> x.files(8));
        x.drive(TapeRobotics.SWIFT);
        Check.due("mount(0, 7), the 8th tape", x.mount(0, 7), 34);
    }

    private static void tracksOfOneLength() {
        Check.sentence("Terms, each with 1 to 8 tracks of one length, 4 to 200 places");
        for (int tracks = 1; tracks <= 8; tracks++) {
            for (int length : new int[] {4, 5, 100, 199, 200}) {
                TapeRobotics x = new TapeRobotics();
                String form = "(" + tracks + ", " + length + ")";
                Check.due("tape" + form, x.tape(tracks, length), 0);
                int places = tracks * length;
                Check.due("along(0, the last place) of tape" + form, x.along(0, places - 1), tracks % 2 == 1 ? length - 1 : 0);
                Check.noIndex("along(0, behind the last place) of tape" + form, () -> x.along(0, places));
            }
        }
        TapeRobotics x = new TapeRobotics();
        Check.noArgument("tape(0, 4)", () -> x.tape(0, 4));
        Check.noArgument("tape(9, 4)", () -> x.tape(9, 4));
        Check.noArgument("tape(1, 3)", () -> x.tape(1, 3));
        Check.noArgument("tape(1, 201)", () -> x.tape(1, 201));
    }

    private static void alongEachPlace() {
        Check.sentence("Terms, it lies p % length along the tape on even tracks, and length - 1 - p % length on the others");
        TapeRobotics x = new TapeRobotics();
        x.tape(8, 4);
        for (int place = 0; place < 32; place++) {
            Check.due("along(0, " + place + ")", x.along(0, place), digit(ALONG, place));
        }
        Check.noIndex("along(0, -1)", () -> x.along(0, -1));
        Check.noIndex("along(0, 32)", () -> x.along(0, 32));
        x.tape(2, 5);
        int[] odd = {0, 1, 2, 3, 4, 4, 3, 2, 1, 0};
        for (int place = 0; place < 10; place++) {
            Check.due("along(1, " + place + ")", x.along(1, place), odd[place]);
        }
    }

    private static void alongTheLongestTape() {
        Check.sentence("Terms, it lies p % length along the tape, at the ends of the longest tracks");
        TapeRobotics x = new TapeRobotics();
        x.tape(8, 200);
        for (int track = 0; track < 8; track++) {
            int first = track % 2 == 0 ? 0 : 199;
            Check.due("along(0, " + 200 * track + ")", x.along(0, 200 * track), first);
            Check.due("along(0, " + (200 * track + 1) + ")", x.along(0, 200 * track + 1), Math.abs(first - 1));
            Check.due("along(0, " + (200 * track + 199) + ")", x.along(0, 200 * track + 199), 199 - first);
        }
        Check.noIndex("along(0, 1600)", () -> x.along(0, 1600));
    }

    private static void trackOfEachPlace() {
        Check.sentence("Terms, the place p is on the track p / length, rounded down");
        for (int make = 0; make < 2; make++) {
            for (int place = 1; place < 32; place++) {
                TapeRobotics x = Libraries.written(make, 8, 4, place, 1);
                Check.due("start(0, 1)", x.start(0, 1), place);
                x.read(0, 0);
                Check.due("unmount(0) from the place " + place, x.unmount(0), way(make, place, 0) + 20);
                x.mount(0, 0);
                Check.due("read(0, 1) at the place " + place, x.read(0, 1), way(make, 0, place) + 3);
            }
        }
    }

    private static void filesOneBehindTheOther() {
        Check.sentence("Terms, files lie one behind the other from the place 0 on, each on a number of places");
        TapeRobotics x = new TapeRobotics();
        x.drive(TapeRobotics.STEADY);
        x.tape(8, 200);
        x.mount(0, 0);
        int[] blocks = {1, 100, 1, 99, 2, 100, 100, 1, 1, 100};
        int[] starts = {0, 1, 101, 102, 201, 203, 303, 403, 404, 405};
        for (int file = 0; file < 10; file++) {
            Check.due("write(0, " + blocks[file] + ") just behind", x.write(0, blocks[file]), 3 * blocks[file]);
            Check.due("start(0, " + file + ")", x.start(0, file), starts[file]);
            Check.due("stands(0)", x.stands(0), starts[file] + blocks[file]);
        }
    }

    private static void atMostTenFiles() {
        Check.sentence("Terms, there are at most 10 on a tape, numbered from 0");
        TapeRobotics x = Libraries.written(TapeRobotics.SWIFT, 1, 200, 1, 1, 1, 1, 1, 1, 1, 1, 1);
        Check.due("files(0)", x.files(0), 9);
        Check.noIndex("start(0, 9) before it was written", () -> x.start(0, 9));
        Check.due("write(0, 1), the 10th file", x.write(0, 1), 3);
        Check.due("files(0)", x.files(0), 10);
        Check.due("start(0, 0)", x.start(0, 0), 0);
        Check.due("start(0, 9)", x.start(0, 9), 9);
        Check.noIndex("start(0, 10)", () -> x.start(0, 10));
        Check.noState("write(0, 1), the 11th file", () -> x.write(0, 1));
        Check.due("read(0, 9), the 10th file", x.read(0, 9), 1 + 3);
        x.unmount(0);
        x.tape(1, 4);
        x.mount(0, 1);
        Check.due("write(0, 1) on another tape", x.write(0, 1), 3);
    }

    private static void behindAFullTape() {
        Check.sentence("Terms, the place behind the last one of a full tape counts as lying where its last place lies");
        for (int make = 0; make < 2; make++) {
            for (int tracks = 1; tracks <= 8; tracks++) {
                int places = 4 * tracks;
                int home = way(make, places - 1, 0);
                String form = "make " + make + ", " + tracks + " tracks: ";
                TapeRobotics x = Libraries.written(make, tracks, 4, places);
                Check.due(form + "stands(0)", x.stands(0), places);
                Check.due(form + "read(0, 0)", x.read(0, 0), home + 3 * places);
                Check.due(form + "unmount(0)", x.unmount(0), home + 20);
                TapeRobotics y = Libraries.written(make, tracks, 4, places - 1);
                Check.due(form + "unmount(0) at the last place", y.unmount(0), home + 20);
            }
        }
        int[] tenFiles = {100, 100, 100, 100, 100, 100, 100, 100, 100, 100};
        TapeRobotics swift = Libraries.written(TapeRobotics.SWIFT, 5, 200, tenFiles);
        Check.due("unmount(0) behind 1000 places", swift.unmount(0), 199 + 4 * 9 + 20);
        TapeRobotics steady = Libraries.written(TapeRobotics.STEADY, 5, 200, tenFiles);
        Check.due("read(0, 9) from behind 1000 places", steady.read(0, 9), 2 * 99 + 300);
        Check.due("unmount(0) behind 1000 places", steady.unmount(0), 2 * 199 + 4 + 20);
    }

    private static void behindAFullTapeInOrders() {
        Check.sentence("Terms, the place behind the last one of a full tape, on the way from job to job");
        for (int make = 0; make < 2; make++) {
            TapeRobotics x = Libraries.written(make, 2, 4, 3, 5);
            Libraries.jobs(x, 0, 1, 1);
            // The file 1 begins at the place 3, three along the track 0, and ends 0 along the track 1.
            int way = 3 * PACE[make] + STEP[make];
            Check.due("bestTime(0), make " + make, x.bestTime(0), 2 * (way + 15));
            Check.due("insertedTime(0), make " + make, x.insertedTime(0), 2 * (way + 15));
            Check.due("triedTime(0), make " + make, x.triedTime(0), 2 * (way + 15));
            int before = x.clock(0);
            x.work(0);
            Check.due("clock(0) behind work(0), make " + make, x.clock(0), before + 2 * (way + 15));
        }
    }

    private static void behindTheEndOfATrack() {
        Check.sentence("Terms, the place behind the last one of a FULL tape, no other place at the end of a track");
        for (int make = 0; make < 2; make++) {
            for (int tracks = 1; tracks < 8; tracks++) {
                TapeRobotics x = Libraries.written(make, 8, 4, 4 * tracks);
                Check.due("unmount(0) behind " + tracks + " tracks", x.unmount(0), way(make, 4 * tracks, 0) + 20);
            }
        }
    }

    private static void atMostThreeDrives() {
        Check.sentence("Terms, at most 3 drives, numbered from 0, each of the make SWIFT or STEADY");
        for (int makes = 0; makes < 8; makes++) {
            TapeRobotics x = new TapeRobotics();
            for (int drive = 0; drive < 3; drive++) {
                int next = drive;
                Check.noIndex("clock(" + drive + ") before it came", () -> x.clock(next));
                Check.due("drive", x.drive(makes >> drive & 1), drive);
                Check.due("clock(" + drive + ")", x.clock(drive), 0);
            }
            Check.noState("the 4th drive", () -> x.drive(TapeRobotics.SWIFT));
            Check.noIndex("clock(3)", () -> x.clock(3));
            x.tape(2, 4);
            for (int drive = 0; drive < 3; drive++) {
                x.mount(drive, 0);
                if (drive == 0) {
                    x.write(0, 4);
                }
                x.read(drive, 0);
                Check.due("unmount(" + drive + "), by its make", x.unmount(drive), way(makes >> drive & 1, 4, 0) + 20 + 8 * drive);
            }
        }
        TapeRobotics x = new TapeRobotics();
        Check.noArgument("drive(-1)", () -> x.drive(-1));
        Check.noArgument("drive(2)", () -> x.drive(2));
    }

    private static void fromEachPlaceToEach() {
        Check.sentence("Terms, the distance along the tape times its pace, plus the tracks times its step, both without sign");
        for (int make = 0; make < 2; make++) {
            for (int first = 0; first < 10; first++) {
                for (int then = 0; then < 10; then++) {
                    TapeRobotics x = Libraries.written(make, 3, 4, 1, 1, 1, 1, 1, 1, 1, 1, 1, 1);
                    String call = "make " + make + ": read(0, " + first + "), read(0, " + then + ")";
                    Check.due(call + ", the first", x.read(0, first), way(make, 10, first) + 3);
                    Check.due(call + ", the second", x.read(0, then), way(make, first + 1, then) + 3);
                }
            }
        }
    }

    private static void threeForABlock() {
        Check.sentence("Terms, a block takes 3 by each make, and moves to the next place without any other time");
        for (int make = 0; make < 2; make++) {
            for (int blocks = 1; blocks <= 32; blocks++) {
                TapeRobotics x = Libraries.written(make, 8, 4);
                Check.due("write(0, " + blocks + ")", x.write(0, blocks), 3 * blocks);
                Check.due("stands(0)", x.stands(0), blocks);
                x.unmount(0);
                x.mount(0, 0);
                Check.due("read(0, 0) of " + blocks, x.read(0, 0), 3 * blocks);
                Check.due("stands(0)", x.stands(0), blocks);
            }
            TapeRobotics x = Libraries.written(make, 8, 200);
            Check.due("write(0, 100)", x.write(0, 100), 300);
            Check.due("write(0, 100) to the end of the track", x.write(0, 100), 300);
            Check.due("write(0, 100) on the next track", x.write(0, 100), 300);
            Check.due("stands(0)", x.stands(0), 300);
        }
    }

    private static void mountedAtThePlaceZero() {
        Check.sentence("Terms, a drive stands at the place 0 when a tape is mounted");
        TapeRobotics x = Libraries.bare(2, 2);
        x.mount(0, 0);
        Check.due("stands(0), an empty tape", x.stands(0), 0);
        x.write(0, 20);
        Check.due("stands(0), a full tape", x.stands(0), 20);
        x.unmount(0);
        x.mount(0, 0);
        Check.due("stands(0), the same tape again", x.stands(0), 0);
        x.read(0, 0);
        x.unmount(0);
        x.mount(1, 0);
        Check.due("stands(1), by another drive", x.stands(1), 0);
        x.mount(0, 1);
        Check.due("stands(0), another tape", x.stands(0), 0);
        Check.due("unmount(0) with nothing to rewind", x.unmount(0), 20 + 2);
    }

    private static void clockGrowsByAllThatADriveDoes() {
        Check.sentence("Terms, each drive has a clock, which grows by the time of all that it does");
        for (int drive = 0; drive < 3; drive++) {
            TapeRobotics x = Libraries.bare(8, 3);
            x.carry(7, 11);
            int clock = 0;
            Check.due("clock, new", x.clock(drive), clock);
            clock += x.mount(drive, 7);
            Check.due("clock behind mount", x.clock(drive), clock);
            clock += x.write(drive, 15);
            Check.due("clock behind write", x.clock(drive), clock);
            clock += x.read(drive, 0);
            Check.due("clock behind read", x.clock(drive), clock);
            Libraries.jobs(x, 7, 0, 0);
            clock += x.bestTime(drive);
            x.work(drive);
            Check.due("clock behind work", x.clock(drive), clock);
            clock += x.unmount(drive);
            Check.due("clock behind unmount", x.clock(drive), clock);
            x.clean(drive);
            Check.due("clock behind clean", x.clock(drive), clock + 50);
            for (int other = 0; other < 3; other++) {
                Check.due("clock of drive " + other, x.clock(other), other == drive ? clock + 50 : 0);
            }
        }
    }

    private static void clockStandsStillOtherwise() {
        Check.sentence("Terms, a clock grows by nothing but what its drive does");
        TapeRobotics x = Libraries.mixed();
        int clock = x.clock(0);
        x.tape(1, 4);
        x.carry(0, 11);
        x.drive(TapeRobotics.SWIFT);
        x.job(0, 0, 0);
        x.bestTime(0);
        x.bestJob(0, 0);
        x.insertedTime(0);
        x.triedTime(0);
        x.lose(0);
        x.inventory();
        x.mount(1, 0);
        x.work(1);
        Check.due("clock(0)", x.clock(0), clock);
        Check.due("clock(2)", x.clock(2), 0);
    }

    private static void twelveFiles() {
        Check.sentence("Terms, behind the 12th file since it was cleaned, it reads and writes none until it is cleaned");
        for (int make = 0; make < 2; make++) {
            TapeRobotics x = Libraries.written(make, 1, 200, 1);
            for (int passed = 1; passed < 12; passed++) {
                Check.due("read(0, 0), file " + (passed + 1), x.read(0, 0), PACE[make] + 3);
            }
            Check.noState("read(0, 0), the 13th file", () -> x.read(0, 0));
            Check.noState("write(0, 1), the 13th file", () -> x.write(0, 1));
            Check.noState("work(0) behind the 12th file", () -> x.work(0));
            x.unmount(0);
            x.mount(0, 0);
            Check.noState("read(0, 0), mounted anew", () -> x.read(0, 0));
            x.unmount(0);
            Check.due("clean(0)", x.clean(0), 12);
            x.mount(0, 0);
            for (int passed = 0; passed < 12; passed++) {
                Check.due("read(0, 0), clean", x.read(0, 0), passed == 0 ? 3 : PACE[make] + 3);
            }
            Check.noState("read(0, 0), the 13th file again", () -> x.read(0, 0));
        }
    }

    private static void twelveFilesOfEachKind() {
        Check.sentence("Terms, its files count, read, written, or read for a job, on whatever tapes");
        TapeRobotics x = Libraries.bare(2, 1);
        x.mount(0, 0);
        for (int file = 0; file < 10; file++) {
            x.write(0, 1);
        }
        x.unmount(0);
        x.mount(0, 1);
        x.write(0, 1);
        Check.due("write(0, 1), the 12th", x.write(0, 1), 3);
        Check.noState("write(0, 1), the 13th", () -> x.write(0, 1));
        x.unmount(0);
        x.clean(0);
        x.mount(0, 0);
        Libraries.jobs(x, 0, 0, 1, 2, 3, 4, 5, 6);
        x.work(0);
        Libraries.jobs(x, 0, 0, 1, 2, 3, 4, 5);
        x.work(0);
        Check.due("done(), 7 and 5", x.done(), 12);
        Check.due("waiting(0)", x.waiting(0), 1);
        Check.noState("read(0, 0), the 13th", () -> x.read(0, 0));
        x.unmount(0);
        Check.due("clean(0)", x.clean(0), 12);
    }

    private static void twelveFilesOfEachDrive() {
        Check.sentence("Terms, each drive counts its files");
        TapeRobotics x = Libraries.bare(1, 3);
        x.mount(0, 0);
        x.write(0, 1);
        x.unmount(0);
        for (int drive = 0; drive < 3; drive++) {
            int asked = drive;
            x.mount(drive, 0);
            for (int passed = drive == 0 ? 1 : 0; passed < 12; passed++) {
                x.read(drive, 0);
            }
            Check.noState("read(" + drive + ", 0), the 13th", () -> x.read(asked, 0));
            x.unmount(drive);
        }
        Check.due("clean(1)", x.clean(1), 12);
        x.mount(0, 0);
        Check.noState("read(0, 0), another drive having been cleaned", () -> x.read(0, 0));
        x.unmount(0);
        x.mount(1, 0);
        Check.due("read(1, 0), clean", x.read(1, 0), 3);
    }

    private static void cleaningTakesFifty() {
        Check.sentence("Terms, which takes 50 and can be done without a tape alone");
        TapeRobotics x = Libraries.bare(1, 3);
        for (int drive = 0; drive < 3; drive++) {
            x.clean(drive);
            Check.due("clock(" + drive + ")", x.clock(drive), 50);
            x.clean(drive);
            Check.due("clock(" + drive + ")", x.clock(drive), 100);
        }
        x.mount(2, 0);
        Check.noState("clean(2) with a tape", () -> x.clean(2));
        Check.due("clean(1), another drive having a tape", x.clean(1), 0);
        x.write(2, 20);
        Check.noState("clean(2) with a tape", () -> x.clean(2));
        x.unmount(2);
        int clock = x.clock(2);
        Check.due("clean(2)", x.clean(2), 1);
        Check.due("clock(2)", x.clock(2), clock + 50);
    }

    private static void twelveSlots() {
        Check.sentence("Terms, each tape is in a slot, 0 to 11, or in a drive");
        TapeRobotics x = Libraries.bare(1, 3);
        for (int slot = 1; slot < 12; slot++) {
            Check.due("carry(0, " + slot + ")", x.carry(0, slot), slot - 1);
            Check.due("placeOf(0)", x.placeOf(0), slot);
        }
        Check.noIndex("carry(0, 12)", () -> x.carry(0, 12));
        Check.due("carry(0, 0)", x.carry(0, 0), 11);
        Check.noIndex("carry(0, -1)", () -> x.carry(0, -1));
        for (int drive = 0; drive < 3; drive++) {
            x.mount(drive, 0);
            Check.due("placeOf(0)", x.placeOf(0), -1 - drive);
            x.unmount(drive);
            Check.due("placeOf(0)", x.placeOf(0), 0);
        }
    }

    private static void robotBetweenEachDriveAndSlot() {
        Check.sentence("Terms, to mount takes 20, and 2 for each step between the slot 4 * d and that of the tape");
        int[][] steps = {
            {0, 1, 2, 3, 4, 5, 6, 7, 8, 9, 10, 11},
            {4, 3, 2, 1, 0, 1, 2, 3, 4, 5, 6, 7},
            {8, 7, 6, 5, 4, 3, 2, 1, 0, 1, 2, 3}
        };
        TapeRobotics x = Libraries.bare(1, 3);
        for (int slot = 0; slot < 12; slot++) {
            if (slot > 0) {
                x.carry(0, slot);
            }
            for (int drive = 0; drive < 3; drive++) {
                int time = 20 + 2 * steps[drive][slot];
                Check.due("mount(" + drive + ", 0) from the slot " + slot, x.mount(drive, 0), time);
                Check.due("unmount(" + drive + ") to the slot " + slot, x.unmount(drive), time);
            }
        }
    }

    private static void backToItsSlot() {
        Check.sentence("Terms, an unmounted tape goes back to the slot where it was");
        for (int slot = 1; slot < 12; slot++) {
            TapeRobotics x = Libraries.bare(2, 2);
            if (slot > 1) {
                x.carry(1, slot);
            }
            x.mount(1, 1);
            x.carry(0, slot == 11 ? 10 : 11);
            int own = slot;
            Check.noState("carry(0, " + slot + "), kept for the tape", () -> x.carry(0, own));
            for (int tape = 2; tape < 8; tape++) {
                x.tape(1, 4);
                int found = x.placeOf(tape);
                Check.due("placeOf(" + tape + "), the slot " + slot + " being kept", found, slot <= tape - 2 ? tape - 1 : tape - 2);
            }
            x.unmount(1);
            Check.due("placeOf(1)", x.placeOf(1), slot);
        }
    }

    private static void atMostSixtyJobs() {
        Check.sentence("Terms, jobs are numbered from 0 in the order in which they come, at most 60");
        TapeRobotics x = Libraries.shelf(8);
        int come = 0;
        for (int tape = 7; tape >= 0; tape--) {
            for (int job = 0; job < 7; job++) {
                Check.due("job(" + tape + ", 0, 5)", x.job(tape, 0, 5), come);
                come++;
            }
        }
        x.mount(0, 3);
        x.work(0);
        for (; come < 60; come++) {
            Check.due("job(3, 0, 5)", x.job(3, 0, 5), come);
        }
        Check.due("bestJob(0, 3), the 60th job", x.bestJob(0, 3), 59);
        Check.noState("the 61st job", () -> x.job(3, 0, 5));
        x.work(0);
        Check.due("waiting(3)", x.waiting(3), 0);
        Check.noState("the 61st job, those before it being done", () -> x.job(3, 0, 5));
        Check.due("done()", x.done(), 11);
    }

    private static void atMostSevenAtATape() {
        Check.sentence("Terms, those that wait at a tape, at most 7");
        TapeRobotics x = Libraries.shelf(2);
        for (int job = 0; job < 7; job++) {
            Check.due("job(0, 0, 5)", x.job(0, 0, 5), job);
            Check.due("waiting(0)", x.waiting(0), job + 1);
        }
        Check.noState("the 8th job at the tape 0", () -> x.job(0, 0, 5));
        Check.due("job(1, 0, 5) at another tape", x.job(1, 0, 5), 7);
        x.mount(0, 0);
        Check.noState("the 8th job at the tape 0 in a drive", () -> x.job(0, 0, 5));
        x.work(0);
        for (int job = 8; job < 15; job++) {
            Check.due("job(0, 0, 5), the others being done", x.job(0, 0, 5), job);
        }
        Check.noState("the 8th job at the tape 0 that waits", () -> x.job(0, 0, 5));
    }
}
