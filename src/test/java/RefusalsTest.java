import java.util.function.Supplier;

/**
 * Each call that the document refuses: that it throws what is listed, the first that is listed where two
 * apply, and that nothing has changed behind it. For the last, the library that refused answers a Probe
 * as another one does that was made in the same way and never asked.
 */
public final class RefusalsTest {
    private static final Supplier<TapeRobotics> NEW = TapeRobotics::new;
    private static final Supplier<TapeRobotics> MIXED = Libraries::mixed;
    private static final Supplier<TapeRobotics> ALL = () -> Libraries.bare(8, 3);
    private static final Supplier<TapeRobotics> UNCLEAN = Libraries::unclean;
    private static final Supplier<TapeRobotics> UNCLEAN_WITHOUT_TAPE = Libraries::uncleanWithoutTape;
    private static final Supplier<TapeRobotics> TEN_FILES = Libraries::tenFiles;
    private static final Supplier<TapeRobotics> FULL_TAPE = Libraries::fullTape;
    private static final Supplier<TapeRobotics> SEVEN_WAIT = Libraries::sevenWait;
    private static final Supplier<TapeRobotics> SIXTY_JOBS = Libraries::sixtyJobs;

    // Of mixed().
    private static final int[] NO_TAPES = Check.outside(0, 2);
    private static final int[] NO_DRIVES = Check.outside(0, 1);
    private static final int[] NO_FILES = Check.outside(0, 1);
    private static final int[] NO_SLOTS = Check.outside(0, 11);
    private static final int[] NO_BLOCKS = Check.outside(1, 100);
    private static final int[] NO_DEADLINES = Check.outside(0, 99999);

    private interface Call {
        int on(TapeRobotics x);
    }

    public static void main(String[] args) {
        tape();
        carry();
        carryToTakenSlots();
        questionsOfTapes();
        drive();
        mount();
        unmountAndClean();
        write();
        writeFirstListed();
        read();
        questionsOfDrives();
        job();
        jobFirstListed();
        orders();
        work();
        lose();
        Check.end();
    }

    private static void refused(String what, Class<? extends RuntimeException> due,
            Supplier<TapeRobotics> maker, Call call) {
        TapeRobotics asked = maker.get();
        Check.refused(what, due, () -> call.on(asked));
        Check.same("behind " + what, Probe.of(asked), Probe.of(maker.get()));
    }

    private static void noIndex(String what, Supplier<TapeRobotics> maker, Call call) {
        refused(what, IndexOutOfBoundsException.class, maker, call);
    }

    private static void noArgument(String what, Supplier<TapeRobotics> maker, Call call) {
        refused(what, IllegalArgumentException.class, maker, call);
    }

    private static void noState(String what, Supplier<TapeRobotics> maker, Call call) {
        refused(what, IllegalStateException.class, maker, call);
    }

    // Promise 2
    private static void tape() {
        Check.sentence("2, IllegalArgumentException if tracks or length is out of its range");
        for (int tracks : Check.outside(1, 8)) {
            noArgument("tape(" + tracks + ", 4)", MIXED, x -> x.tape(tracks, 4));
            noArgument("tape(" + tracks + ", 200)", NEW, x -> x.tape(tracks, 200));
        }
        for (int length : Check.outside(4, 200)) {
            noArgument("tape(1, " + length + ")", MIXED, x -> x.tape(1, length));
            noArgument("tape(8, " + length + ")", NEW, x -> x.tape(8, length));
        }
        Check.sentence("2, IllegalStateException if there are 8 tapes");
        noState("tape(1, 4)", ALL, x -> x.tape(1, 4));
        noState("tape(8, 200)", SIXTY_JOBS, x -> x.tape(8, 200));
        Check.sentence("2, the first listed of IllegalArgumentException and IllegalStateException");
        for (int tracks : Check.outside(1, 8)) {
            noArgument("tape(" + tracks + ", 4) with 8 tapes", ALL, x -> x.tape(tracks, 4));
        }
        for (int length : Check.outside(4, 200)) {
            noArgument("tape(1, " + length + ") with 8 tapes", ALL, x -> x.tape(1, length));
        }
    }

    // Promise 3
    private static void carry() {
        Check.sentence("3, IndexOutOfBoundsException if there is no such tape or slot");
        noIndex("carry(0, 0) without tapes", NEW, x -> x.carry(0, 0));
        noIndex("carry(8, 11) with 8 tapes", ALL, x -> x.carry(8, 11));
        for (int tape : NO_TAPES) {
            noIndex("carry(" + tape + ", 0)", MIXED, x -> x.carry(tape, 0));
        }
        for (int slot : NO_SLOTS) {
            noIndex("carry(0, " + slot + ")", MIXED, x -> x.carry(0, slot));
            noIndex("carry(3, " + slot + ")", MIXED, x -> x.carry(3, slot));
        }
        Check.sentence("3, the first listed of IndexOutOfBoundsException and IllegalStateException");
        for (int tape : NO_TAPES) {
            noIndex("carry(" + tape + ", 2), which is not free", MIXED, x -> x.carry(tape, 2));
        }
        for (int slot : NO_SLOTS) {
            noIndex("carry(1, " + slot + ") from a drive", MIXED, x -> x.carry(1, slot));
        }
    }

    private static void carryToTakenSlots() {
        Check.sentence("3, IllegalStateException if the tape is in a drive");
        for (int slot = 0; slot < 12; slot++) {
            int asked = slot;
            noState("carry(1, " + slot + ")", MIXED, x -> x.carry(1, asked));
        }
        Check.sentence("3, IllegalStateException if the slot is not free");
        noState("carry(0, 2) with a tape in it", MIXED, x -> x.carry(0, 2));
        noState("carry(2, 5) with a tape in it", MIXED, x -> x.carry(2, 5));
        noState("carry(0, 1) whose tape is in a drive", MIXED, x -> x.carry(0, 1));
        noState("carry(2, 1) whose tape is in a drive", MIXED, x -> x.carry(2, 1));
        noState("carry(0, 5) with this tape in it", MIXED, x -> x.carry(0, 5));
        noState("carry(7, 0) with 8 tapes", ALL, x -> x.carry(7, 0));
        noState("carry(0, 7) with 8 tapes", ALL, x -> x.carry(0, 7));
    }

    // Promises 4 to 7, and 17
    private static void questionsOfTapes() {
        Check.sentence("4 to 7 and 17, IndexOutOfBoundsException if there is no such tape");
        noTape("0, without tapes", NEW, 0);
        noTape("8, with 8 tapes", ALL, 8);
        for (int tape : NO_TAPES) {
            noTape(String.valueOf(tape), MIXED, tape);
        }
        Check.sentence("6, IndexOutOfBoundsException if there is no such file");
        noIndex("start(0, 0) without files", ALL, x -> x.start(0, 0));
        noIndex("start(1, 10) with 10 files", TEN_FILES, x -> x.start(1, 10));
        for (int file : NO_FILES) {
            noIndex("start(0, " + file + ")", MIXED, x -> x.start(0, file));
            noIndex("start(1, " + file + ") in a drive", MIXED, x -> x.start(1, file));
        }
        Check.sentence("7, IndexOutOfBoundsException if place is below 0 or not less than its places");
        for (int place : Check.outside(0, 19)) {
            noIndex("along(0, " + place + ")", MIXED, x -> x.along(0, place));
        }
        for (int place : Check.outside(0, 14)) {
            noIndex("along(1, " + place + ") of a full tape", FULL_TAPE, x -> x.along(1, place));
        }
    }

    private static void noTape(String what, Supplier<TapeRobotics> maker, int tape) {
        noIndex("placeOf of tape " + what, maker, x -> x.placeOf(tape));
        noIndex("files of tape " + what, maker, x -> x.files(tape));
        noIndex("start of tape " + what, maker, x -> x.start(tape, 0));
        noIndex("along of tape " + what, maker, x -> x.along(tape, 0));
        noIndex("waiting of tape " + what, maker, x -> x.waiting(tape));
    }

    // Promise 8
    private static void drive() {
        Check.sentence("8, IllegalArgumentException if make is none of these");
        for (int make : Check.outside(0, 1)) {
            noArgument("drive(" + make + ")", NEW, x -> x.drive(make));
            noArgument("drive(" + make + ")", MIXED, x -> x.drive(make));
        }
        Check.sentence("8, IllegalStateException if there are 3 drives");
        noState("drive(SWIFT)", ALL, x -> x.drive(TapeRobotics.SWIFT));
        noState("drive(STEADY)", ALL, x -> x.drive(TapeRobotics.STEADY));
        Check.sentence("8, the first listed of IllegalArgumentException and IllegalStateException");
        for (int make : Check.outside(0, 1)) {
            noArgument("drive(" + make + ") with 3 drives", ALL, x -> x.drive(make));
        }
    }

    // Promise 9
    private static void mount() {
        Check.sentence("9, IndexOutOfBoundsException if there is no such drive or tape");
        noIndex("mount(0, 0) without drives and tapes", NEW, x -> x.mount(0, 0));
        noIndex("mount(0, 0) without drives", () -> Libraries.bare(1, 0), x -> x.mount(0, 0));
        noIndex("mount(0, 0) without tapes", () -> Libraries.bare(0, 1), x -> x.mount(0, 0));
        noIndex("mount(3, 0) with 3 drives", ALL, x -> x.mount(3, 0));
        noIndex("mount(0, 8) with 8 tapes", ALL, x -> x.mount(0, 8));
        for (int drive : NO_DRIVES) {
            noIndex("mount(" + drive + ", 0)", MIXED, x -> x.mount(drive, 0));
        }
        for (int tape : NO_TAPES) {
            noIndex("mount(1, " + tape + ")", MIXED, x -> x.mount(1, tape));
        }
        Check.sentence("9, IllegalStateException if the drive has a tape");
        noState("mount(0, 0)", MIXED, x -> x.mount(0, 0));
        noState("mount(0, 1), the very tape", MIXED, x -> x.mount(0, 1));
        noState("mount(0, 2), without a label besides", MIXED, x -> x.mount(0, 2));
        Check.sentence("9, IllegalStateException if the tape is in a drive or without a label");
        noState("mount(1, 1) in a drive", MIXED, x -> x.mount(1, 1));
        noState("mount(1, 2) without a label", MIXED, x -> x.mount(1, 2));
        Check.sentence("9, the first listed of IndexOutOfBoundsException and IllegalStateException");
        for (int drive : NO_DRIVES) {
            noIndex("mount(" + drive + ", 1), the tape in a drive", MIXED, x -> x.mount(drive, 1));
            noIndex("mount(" + drive + ", 2), the tape without a label", MIXED, x -> x.mount(drive, 2));
        }
        for (int tape : NO_TAPES) {
            noIndex("mount(0, " + tape + "), the drive having a tape", MIXED, x -> x.mount(0, tape));
        }
    }

    // Promises 10 and 13
    private static void unmountAndClean() {
        Check.sentence("10 and 13, IndexOutOfBoundsException if there is no such drive");
        noIndex("unmount(0) without drives", NEW, x -> x.unmount(0));
        noIndex("clean(0) without drives", NEW, x -> x.clean(0));
        noIndex("unmount(3) with 3 drives", ALL, x -> x.unmount(3));
        noIndex("clean(3) with 3 drives", ALL, x -> x.clean(3));
        for (int drive : NO_DRIVES) {
            noIndex("unmount(" + drive + ")", MIXED, x -> x.unmount(drive));
            noIndex("clean(" + drive + ")", MIXED, x -> x.clean(drive));
        }
        Check.sentence("10, IllegalStateException if it has no tape");
        noState("unmount(1)", MIXED, x -> x.unmount(1));
        noState("unmount(0), unmounted already", UNCLEAN_WITHOUT_TAPE, x -> x.unmount(0));
        noState("unmount(2)", ALL, x -> x.unmount(2));
        Check.sentence("13, IllegalStateException if it has a tape");
        noState("clean(0)", MIXED, x -> x.clean(0));
        noState("clean(0), wanting it", UNCLEAN, x -> x.clean(0));
    }

    // Promise 11
    private static void write() {
        Check.sentence("11, IndexOutOfBoundsException if there is no such drive");
        noIndex("write(0, 1) without drives", NEW, x -> x.write(0, 1));
        noIndex("write(3, 1) with 3 drives", ALL, x -> x.write(3, 1));
        for (int drive : NO_DRIVES) {
            noIndex("write(" + drive + ", 1)", MIXED, x -> x.write(drive, 1));
        }
        Check.sentence("11, IllegalArgumentException if blocks is out of its range");
        for (int blocks : NO_BLOCKS) {
            noArgument("write(0, " + blocks + ")", MIXED, x -> x.write(0, blocks));
        }
        Check.sentence("11, IllegalStateException if it has no tape");
        noState("write(1, 1)", MIXED, x -> x.write(1, 1));
        noState("write(1, 100)", MIXED, x -> x.write(1, 100));
        noState("write(0, 1), unclean besides", UNCLEAN_WITHOUT_TAPE, x -> x.write(0, 1));
        Check.sentence("11, IllegalStateException if it wants cleaning");
        noState("write(0, 1)", UNCLEAN, x -> x.write(0, 1));
        noState("write(0, 100), too few places besides", UNCLEAN, x -> x.write(0, 100));
        Check.sentence("11, IllegalStateException if the tape has 10 files");
        noState("write(0, 1)", TEN_FILES, x -> x.write(0, 1));
        noState("write(0, 4), as many as there are places", TEN_FILES, x -> x.write(0, 4));
        noState("write(0, 5), too few places besides", TEN_FILES, x -> x.write(0, 5));
        Check.sentence("11, IllegalStateException if the tape has too few places");
        noState("write(0, 13) with 12 places left", MIXED, x -> x.write(0, 13));
        noState("write(0, 100) with 12 places left", MIXED, x -> x.write(0, 100));
        noState("write(0, 1) with none left", FULL_TAPE, x -> x.write(0, 1));
    }

    private static void writeFirstListed() {
        Check.sentence("11, the first listed of IndexOutOfBoundsException and IllegalArgumentException");
        for (int drive : NO_DRIVES) {
            noIndex("write(" + drive + ", 0)", MIXED, x -> x.write(drive, 0));
            noIndex("write(" + drive + ", 101)", MIXED, x -> x.write(drive, 101));
        }
        Check.sentence("11, the first listed of IllegalArgumentException and IllegalStateException");
        for (int blocks : NO_BLOCKS) {
            noArgument("write(1, " + blocks + ") without a tape", MIXED, x -> x.write(1, blocks));
            noArgument("write(0, " + blocks + "), unclean", UNCLEAN, x -> x.write(0, blocks));
            noArgument("write(0, " + blocks + ") behind 10 files", TEN_FILES, x -> x.write(0, blocks));
            noArgument("write(0, " + blocks + ") on a full tape", FULL_TAPE, x -> x.write(0, blocks));
        }
    }

    // Promise 12
    private static void read() {
        Check.sentence("12, IndexOutOfBoundsException if there is no such drive");
        noIndex("read(0, 0) without drives", NEW, x -> x.read(0, 0));
        noIndex("read(3, 0) with 3 drives", ALL, x -> x.read(3, 0));
        for (int drive : NO_DRIVES) {
            noIndex("read(" + drive + ", 0)", MIXED, x -> x.read(drive, 0));
            noIndex("read(" + drive + ", 2)", MIXED, x -> x.read(drive, 2));
        }
        Check.sentence("12, IndexOutOfBoundsException if, if it has a tape, there is no such file");
        noIndex("read(0, 10) with 10 files", TEN_FILES, x -> x.read(0, 10));
        noIndex("read(0, 0) without files", RefusalsTest::bareMounted, x -> x.read(0, 0));
        Check.sentence("12, IllegalStateException if it wants cleaning");
        noState("read(0, 0)", UNCLEAN, x -> x.read(0, 0));
        noState("read(0, 1)", UNCLEAN, x -> x.read(0, 1));
        for (int file : NO_FILES) {
            Check.sentence("12, IndexOutOfBoundsException if, if it has a tape, there is no such file");
            noIndex("read(0, " + file + ")", MIXED, x -> x.read(0, file));
            Check.sentence("12, the first listed of IndexOutOfBoundsException and IllegalStateException");
            noIndex("read(0, " + file + "), unclean", UNCLEAN, x -> x.read(0, file));
            Check.sentence("12, IllegalStateException if it has no tape, whatever the file");
            noState("read(1, " + file + ")", MIXED, x -> x.read(1, file));
            noState("read(0, " + file + "), unclean", UNCLEAN_WITHOUT_TAPE, x -> x.read(0, file));
        }
        noState("read(1, 0)", MIXED, x -> x.read(1, 0));
        noState("read(0, 1), unclean", UNCLEAN_WITHOUT_TAPE, x -> x.read(0, 1));
    }

    private static TapeRobotics bareMounted() {
        TapeRobotics x = Libraries.bare(1, 1);
        x.mount(0, 0);
        return x;
    }

    // Promises 14 and 15
    private static void questionsOfDrives() {
        Check.sentence("14 and 15, IndexOutOfBoundsException if there is no such drive");
        noIndex("clock(0) without drives", NEW, x -> x.clock(0));
        noIndex("stands(0) without drives", NEW, x -> x.stands(0));
        noIndex("clock(3) with 3 drives", ALL, x -> x.clock(3));
        noIndex("stands(3) with 3 drives", ALL, x -> x.stands(3));
        for (int drive : NO_DRIVES) {
            noIndex("clock(" + drive + ")", MIXED, x -> x.clock(drive));
            noIndex("stands(" + drive + ")", MIXED, x -> x.stands(drive));
        }
    }

    // Promise 16
    private static void job() {
        Check.sentence("16, IndexOutOfBoundsException if there is no such tape or file");
        noIndex("job(0, 0, 0) without tapes", NEW, x -> x.job(0, 0, 0));
        noIndex("job(8, 0, 0) with 8 tapes", ALL, x -> x.job(8, 0, 0));
        noIndex("job(0, 0, 0) without files", ALL, x -> x.job(0, 0, 0));
        noIndex("job(1, 10, 0) with 10 files", TEN_FILES, x -> x.job(1, 10, 0));
        for (int tape : NO_TAPES) {
            noIndex("job(" + tape + ", 0, 0)", MIXED, x -> x.job(tape, 0, 0));
        }
        for (int file : NO_FILES) {
            noIndex("job(0, " + file + ", 0)", MIXED, x -> x.job(0, file, 0));
            noIndex("job(1, " + file + ", 99999) in a drive", MIXED, x -> x.job(1, file, 99999));
        }
        Check.sentence("16, IllegalArgumentException if deadline is out of its range");
        for (int deadline : NO_DEADLINES) {
            noArgument("job(0, 0, " + deadline + ")", MIXED, x -> x.job(0, 0, deadline));
            noArgument("job(1, 1, " + deadline + ") in a drive", MIXED, x -> x.job(1, 1, deadline));
        }
        Check.sentence("16, IllegalStateException if 60 jobs have come");
        noState("job(0, 0, 0) with room at the tape", SIXTY_JOBS, x -> x.job(0, 0, 0));
        Check.sentence("16, IllegalStateException if 7 wait at the tape");
        noState("job(0, 0, 0) before 60", SEVEN_WAIT, x -> x.job(0, 0, 0));
        noState("job(0, 1, 99999) before 60", SEVEN_WAIT, x -> x.job(0, 1, 99999));
        noState("job(7, 0, 0), 60 having come besides", SIXTY_JOBS, x -> x.job(7, 0, 0));
    }

    private static void jobFirstListed() {
        Check.sentence("16, the first listed of IndexOutOfBoundsException and another one");
        for (int tape : NO_TAPES) {
            noIndex("job(" + tape + ", 0, -1)", MIXED, x -> x.job(tape, 0, -1));
            noIndex("job(" + tape + ", 2, 100000)", MIXED, x -> x.job(tape, 2, 100000));
        }
        for (int file : NO_FILES) {
            noIndex("job(0, " + file + ", -1)", MIXED, x -> x.job(0, file, -1));
            noIndex("job(0, " + file + ", 0), 7 waiting", SEVEN_WAIT, x -> x.job(0, file, 0));
            noIndex("job(0, " + file + ", 100000), 7 waiting", SEVEN_WAIT, x -> x.job(0, file, 100000));
        }
        noIndex("job(8, 0, 0) behind the 60th", SIXTY_JOBS, x -> x.job(8, 0, 0));
        noIndex("job(0, 1, 0) behind the 60th", SIXTY_JOBS, x -> x.job(0, 1, 0));
        noIndex("job(7, 1, -1) behind the 60th", SIXTY_JOBS, x -> x.job(7, 1, -1));
        Check.sentence("16, the first listed of IllegalArgumentException and IllegalStateException");
        for (int deadline : NO_DEADLINES) {
            noArgument("job(0, 0, " + deadline + "), 7 waiting", SEVEN_WAIT, x -> x.job(0, 0, deadline));
            noArgument("job(0, 0, " + deadline + ") behind the 60th", SIXTY_JOBS, x -> x.job(0, 0, deadline));
            noArgument("job(7, 0, " + deadline + "), both", SIXTY_JOBS, x -> x.job(7, 0, deadline));
        }
    }

    // Promises 19 to 22
    private static void orders() {
        Check.sentence("19 to 22, IndexOutOfBoundsException if there is no such drive");
        noOrder("0, without drives", IndexOutOfBoundsException.class, NEW, 0);
        noOrder("3, with 3 drives", IndexOutOfBoundsException.class, ALL, 3);
        for (int drive : NO_DRIVES) {
            noOrder(String.valueOf(drive), IndexOutOfBoundsException.class, MIXED, drive);
            noIndex("bestJob(" + drive + ", 2)", MIXED, x -> x.bestJob(drive, 2));
        }
        Check.sentence("19 to 22, IllegalStateException if it has no tape");
        noOrder("1", IllegalStateException.class, MIXED, 1);
        noOrder("0, unclean", IllegalStateException.class, UNCLEAN_WITHOUT_TAPE, 0);
        for (int place : Check.outside(0, 1)) {
            Check.sentence("20, IndexOutOfBoundsException if, if it has a tape, there is no such place");
            noIndex("bestJob(0, " + place + ")", MIXED, x -> x.bestJob(0, place));
            noIndex("bestJob(0, " + place + "), unclean", UNCLEAN, x -> x.bestJob(0, place));
            Check.sentence("20, IllegalStateException if it has no tape, whatever the place");
            noState("bestJob(1, " + place + ")", MIXED, x -> x.bestJob(1, place));
        }
        Check.sentence("20, IndexOutOfBoundsException if, if it has a tape, there is no such place");
        noIndex("bestJob(0, 0) without jobs", RefusalsTest::bareMounted, x -> x.bestJob(0, 0));
        noIndex("bestJob(0, 7) with 7 jobs", RefusalsTest::sevenMounted, x -> x.bestJob(0, 7));
    }

    private static void noOrder(String what, Class<? extends RuntimeException> due,
            Supplier<TapeRobotics> maker, int drive) {
        refused("bestTime of drive " + what, due, maker, x -> x.bestTime(drive));
        refused("bestJob of drive " + what, due, maker, x -> x.bestJob(drive, 0));
        refused("insertedTime of drive " + what, due, maker, x -> x.insertedTime(drive));
        refused("triedTime of drive " + what, due, maker, x -> x.triedTime(drive));
    }

    private static TapeRobotics sevenMounted() {
        TapeRobotics x = Libraries.sevenWait();
        x.mount(1, 0);
        x.unmount(0);
        x.clean(0);
        x.unmount(1);
        x.mount(0, 0);
        return x;
    }

    // Promise 23
    private static void work() {
        Check.sentence("23, IndexOutOfBoundsException if there is no such drive");
        noIndex("work(0) without drives", NEW, x -> x.work(0));
        noIndex("work(3) with 3 drives", ALL, x -> x.work(3));
        for (int drive : NO_DRIVES) {
            noIndex("work(" + drive + ")", MIXED, x -> x.work(drive));
        }
        Check.sentence("23, IllegalStateException if it has no tape");
        noState("work(1)", MIXED, x -> x.work(1));
        noState("work(0), unclean besides", UNCLEAN_WITHOUT_TAPE, x -> x.work(0));
        Check.sentence("23, IllegalStateException if it wants cleaning");
        noState("work(0)", UNCLEAN, x -> x.work(0));
        noState("work(0) without jobs", RefusalsTest::uncleanWithoutJobs, x -> x.work(0));
    }

    private static TapeRobotics uncleanWithoutJobs() {
        TapeRobotics x = Libraries.mixed();
        x.work(0);
        for (int passed = 9; passed < 12; passed++) {
            x.read(0, 0);
        }
        return x;
    }

    // Promise 25
    private static void lose() {
        Check.sentence("25, IndexOutOfBoundsException if there is no such tape");
        noIndex("lose(0) without tapes", NEW, x -> x.lose(0));
        noIndex("lose(8) with 8 tapes", ALL, x -> x.lose(8));
        for (int tape : NO_TAPES) {
            noIndex("lose(" + tape + ")", MIXED, x -> x.lose(tape));
        }
        Check.sentence("25, IllegalStateException if it is in a drive");
        noState("lose(1)", MIXED, x -> x.lose(1));
        Check.sentence("25, IllegalStateException if it is without a label already");
        noState("lose(2)", MIXED, x -> x.lose(2));
    }
}
