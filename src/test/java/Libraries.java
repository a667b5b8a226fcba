/** Libraries of which several tests want one each, new at every call. */
final class Libraries {
    private Libraries() {
    }

    /** Tapes of two tracks of 10 places in the slots from 0 on, and drives of both makes in turn. */
    static TapeRobotics bare(int tapes, int drives) {
        TapeRobotics x = new TapeRobotics();
        for (int tape = 0; tape < tapes; tape++) {
            x.tape(2, 10);
        }
        for (int drive = 0; drive < drives; drive++) {
            x.drive(drive % 2 == 0 ? TapeRobotics.SWIFT : TapeRobotics.STEADY);
        }
        return x;
    }

    /** The tape 0, in the drive 0, on which files of these blocks were written. */
    static TapeRobotics written(int make, int tracks, int length, int... blocks) {
        TapeRobotics x = new TapeRobotics();
        x.drive(make);
        x.tape(tracks, length);
        x.mount(0, 0);
        for (int each : blocks) {
            x.write(0, each);
        }
        return x;
    }

    /** Puts in jobs for the files of a tape, with the last deadline that is allowed. */
    static void jobs(TapeRobotics x, int tape, int... files) {
        for (int file : files) {
            x.job(tape, file, 99999);
        }
    }

    /** Tapes in slots, each with one file of one block; the drive 0 is clean again. */
    static TapeRobotics shelf(int tapes) {
        TapeRobotics x = bare(tapes, 1);
        for (int tape = 0; tape < tapes; tape++) {
            x.mount(0, tape);
            x.write(0, 1);
            x.unmount(0);
        }
        x.clean(0);
        return x;
    }

    /**
     * Something of each kind: the tape 0 with a label in the slot 5, the tape 1 in the drive 0 behind the
     * place 0, the tape 2 without a label in the slot 2, each with two files and two jobs; the drive 1
     * without a tape. The tape 1 has 15 places, 12 of them free; the drive 0 has passed 7 files.
     */
    static TapeRobotics mixed() {
        TapeRobotics x = new TapeRobotics();
        x.drive(TapeRobotics.SWIFT);
        x.drive(TapeRobotics.STEADY);
        x.tape(2, 10);
        x.tape(3, 5);
        x.tape(1, 9);
        for (int tape = 0; tape < 3; tape++) {
            x.mount(0, tape);
            x.write(0, 2);
            x.write(0, 1);
            x.job(tape, 0, 150 + 100 * tape);
            x.job(tape, 1, 330 - 10 * tape);
            x.unmount(0);
        }
        x.carry(0, 5);
        x.lose(2);
        x.mount(0, 1);
        x.read(0, 1);
        return x;
    }

    /** Like mixed(), but the drive 0 wants cleaning. */
    static TapeRobotics unclean() {
        TapeRobotics x = mixed();
        for (int passed = 7; passed < 12; passed++) {
            x.read(0, passed % 2);
        }
        return x;
    }

    /** Like unclean(), but the drive 0 has no tape. */
    static TapeRobotics uncleanWithoutTape() {
        TapeRobotics x = unclean();
        x.unmount(0);
        return x;
    }

    /** Like mixed(), but the tape 1 has 10 files, and 4 places left; its drive was cleaned before. */
    static TapeRobotics tenFiles() {
        TapeRobotics x = mixed();
        x.unmount(0);
        x.clean(0);
        x.mount(0, 1);
        for (int file = 2; file < 10; file++) {
            x.write(0, 1);
        }
        return x;
    }

    /** Like mixed(), but the tape 1 is full with three files. */
    static TapeRobotics fullTape() {
        TapeRobotics x = mixed();
        x.write(0, 12);
        return x;
    }

    /** Like mixed(), but 7 jobs wait at the tape 0. */
    static TapeRobotics sevenWait() {
        TapeRobotics x = mixed();
        for (int job = 2; job < 7; job++) {
            x.job(0, job % 2, 100 * job);
        }
        return x;
    }

    /** 60 jobs have come at 8 tapes in slots; 4 of them wait at the tape 0, 7 at each other one. */
    static TapeRobotics sixtyJobs() {
        TapeRobotics x = shelf(8);
        for (int job = 0; job < 56; job++) {
            x.job(job / 7, 0, 10 * job);
        }
        x.mount(0, 0);
        x.work(0);
        x.unmount(0);
        x.clean(0);
        jobs(x, 0, 0, 0, 0, 0);
        return x;
    }
}
