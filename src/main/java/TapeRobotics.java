/**
 * A robotic library of tapes: tapes in slots and in drives, files on them, a robot between them,
 * jobs that wait to be read, and labels that can be lost. DOC.md says what each call promises.
 *
 * Every call looks at all that could make it throw before it changes anything.
 */
public final class TapeRobotics {
    public static final int NONE = -1;
    public static final int SWIFT = 0, STEADY = 1;

    private static final int MOST_TAPES = 8;
    private static final int MOST_TRACKS = 8;
    private static final int LEAST_LENGTH = 4;
    private static final int MOST_LENGTH = 200;
    private static final int MOST_FILES = 10;
    private static final int MOST_BLOCKS = 100;
    private static final int BLOCK_TIME = 3;

    private static final int MOST_DRIVES = 3;
    private static final int SLOTS_FROM_DRIVE_TO_DRIVE = 4;
    private static final int SWIFT_PACE = 1, SWIFT_STEP = 9;
    private static final int STEADY_PACE = 2, STEADY_STEP = 1;
    private static final int FILES_UNTIL_CLEANING = 12;
    private static final int CLEANING_TIME = 50;

    private static final int SLOTS = 12;
    private static final int HANDLING_TIME = 20;
    private static final int SLOT_TIME = 2;
    private static final int LABEL_TIME = 5;

    private static final int MOST_JOBS = 60;
    private static final int MOST_WAITING = 7;
    private static final int LAST_DEADLINE = 99999;

    private final Tape[] tapes = new Tape[MOST_TAPES];
    private int tapeCount = 0;
    private final Drive[] drives = new Drive[MOST_DRIVES];
    private int driveCount = 0;
    private final Jobs jobs = new Jobs();
    private final Orders orders = new Orders();

    public TapeRobotics() {
    }

    // ---- tapes

    public int tape(int tracks, int length) throws IllegalArgumentException, IllegalStateException {
        if (tracks < 1 || tracks > MOST_TRACKS) {
            throw new IllegalArgumentException("tracks out of range");
        }
        if (length < LEAST_LENGTH || length > MOST_LENGTH) {
            throw new IllegalArgumentException("length out of range");
        }
        if (tapeCount >= tapes.length) {
            throw new IllegalStateException("no more tapes");
        }
        tapes[tapeCount] = new Tape(tapeCount, tracks, length, lowestFreeSlot());
        tapeCount++;
        return tapeCount - 1;
    }

    public int carry(int tape, int slot) throws IndexOutOfBoundsException, IllegalStateException {
        Tape carried = tapeNumbered(tape);
        if (slot < 0 || slot >= SLOTS) {
            throw new IndexOutOfBoundsException("no such slot");
        }
        if (carried.isInDrive() || !isFree(slot)) {
            throw new IllegalStateException("tape in a drive, or slot not free");
        }
        int before = carried.slot;
        carried.slot = slot;
        return before;
    }

    public int placeOf(int tape) throws IndexOutOfBoundsException {
        Tape asked = tapeNumbered(tape);
        return asked.isInDrive() ? -1 - asked.driveNumber : asked.slot;
    }

    public int files(int tape) throws IndexOutOfBoundsException {
        return tapeNumbered(tape).fileCount;
    }

    public int start(int tape, int file) throws IndexOutOfBoundsException {
        Tape asked = tapeNumbered(tape);
        refuseMissingFile(asked, file);
        return asked.beginOf(file);
    }

    public int along(int tape, int place) throws IndexOutOfBoundsException {
        Tape asked = tapeNumbered(tape);
        if (place < 0 || place >= asked.places()) {
            throw new IndexOutOfBoundsException("no such place");
        }
        return asked.distanceAlong(place);
    }

    // ---- drives

    public int drive(int make) throws IllegalArgumentException, IllegalStateException {
        if (make != SWIFT && make != STEADY) {
            throw new IllegalArgumentException("no such make");
        }
        if (driveCount >= drives.length) {
            throw new IllegalStateException("no more drives");
        }
        drives[driveCount] = make == SWIFT
                ? new Drive(driveCount, SWIFT_PACE, SWIFT_STEP)
                : new Drive(driveCount, STEADY_PACE, STEADY_STEP);
        driveCount++;
        return driveCount - 1;
    }

    public int mount(int drive, int tape) throws IndexOutOfBoundsException, IllegalStateException {
        Drive taker = driveNumbered(drive);
        Tape taken = tapeNumbered(tape);
        if (taker.mounted != null || taken.isInDrive() || !taken.hasLabel) {
            throw new IllegalStateException("drive or tape not ready to mount");
        }
        taker.mounted = taken;
        taker.place = 0;
        taken.driveNumber = taker.number;
        return taker.spend(taker.robotTime(taken.slot));
    }

    public int unmount(int drive) throws IndexOutOfBoundsException, IllegalStateException {
        Drive giver = driveNumbered(drive);
        Tape given = mountedIn(giver);
        int rewinding = giver.wayTime(given, giver.place, 0);
        giver.mounted = null;
        giver.place = NONE;
        given.driveNumber = NONE;
        return giver.spend(rewinding + giver.robotTime(given.slot));
    }

    public int write(int drive, int blocks)
            throws IndexOutOfBoundsException, IllegalArgumentException, IllegalStateException {
        Drive writer = driveNumbered(drive);
        if (blocks < 1 || blocks > MOST_BLOCKS) {
            throw new IllegalArgumentException("blocks out of range");
        }
        Tape written = mountedIn(writer);
        refuseUnclean(writer);
        if (!written.hasRoomFor(blocks)) {
            throw new IllegalStateException("tape too full");
        }
        int file = written.append(blocks);
        return writer.passFile(written, file);
    }

    public int read(int drive, int file) throws IndexOutOfBoundsException, IllegalStateException {
        Drive reader = driveNumbered(drive);
        Tape wanted = mountedIn(reader);
        refuseMissingFile(wanted, file);
        refuseUnclean(reader);
        return reader.passFile(wanted, file);
    }

    public int clean(int drive) throws IndexOutOfBoundsException, IllegalStateException {
        Drive cleaned = driveNumbered(drive);
        if (cleaned.mounted != null) {
            throw new IllegalStateException("drive has a tape");
        }
        int passed = cleaned.filesSinceCleaning;
        cleaned.filesSinceCleaning = 0;
        cleaned.spend(CLEANING_TIME);
        return passed;
    }

    public int clock(int drive) throws IndexOutOfBoundsException {
        return driveNumbered(drive).time;
    }

    public int stands(int drive) throws IndexOutOfBoundsException {
        return driveNumbered(drive).place;
    }

    // ---- jobs

    public int job(int tape, int file, int deadline)
            throws IndexOutOfBoundsException, IllegalArgumentException, IllegalStateException {
        Tape wanted = tapeNumbered(tape);
        refuseMissingFile(wanted, file);
        if (deadline < 0 || deadline > LAST_DEADLINE) {
            throw new IllegalArgumentException("deadline out of range");
        }
        if (jobs.count >= MOST_JOBS || jobs.countAt(tape) >= MOST_WAITING) {
            throw new IllegalStateException("no more jobs");
        }
        return jobs.enter(tape, file, deadline);
    }

    public int waiting(int tape) throws IndexOutOfBoundsException {
        return jobs.countAt(tapeNumbered(tape).number);
    }

    public int next() {
        int chosen = NONE;
        int chosenDeadline = 0;
        int chosenCount = 0;
        for (Tape each : tapes) {
            if (each != null && !each.isInDrive() && each.hasLabel) {
                int count = jobs.countAt(each.number);
                int deadline = jobs.earliestDeadlineAt(each.number);
                boolean better = chosen == NONE || deadline < chosenDeadline
                        || (deadline == chosenDeadline && count > chosenCount);
                if (count > 0 && better) {
                    chosen = each.number;
                    chosenDeadline = deadline;
                    chosenCount = count;
                }
            }
        }
        return chosen;
    }

    public int bestTime(int drive) throws IndexOutOfBoundsException, IllegalStateException {
        measureOrders(driveNumbered(drive));
        orders.findBest();
        return orders.timeOf(orders.best, orders.count);
    }

    public int bestJob(int drive, int place) throws IndexOutOfBoundsException, IllegalStateException {
        measureOrders(driveNumbered(drive));
        if (place < 0 || place >= orders.count) {
            throw new IndexOutOfBoundsException("no such place in the order");
        }
        orders.findBest();
        return orders.bestJobAt(place);
    }

    public int insertedTime(int drive) throws IndexOutOfBoundsException, IllegalStateException {
        measureOrders(driveNumbered(drive));
        return orders.timeByInsertion();
    }

    public int triedTime(int drive) throws IndexOutOfBoundsException, IllegalStateException {
        measureOrders(driveNumbered(drive));
        return orders.timeByTrying();
    }

    public int work(int drive) throws IndexOutOfBoundsException, IllegalStateException {
        Drive worker = driveNumbered(drive);
        Tape wanted = mountedIn(worker);
        refuseUnclean(worker);
        measureOrders(worker);
        orders.findBest();
        int late = 0;
        for (int place = 0; place < orders.count && !worker.wantsCleaning(); place++) {
            int job = orders.bestJobAt(place);
            worker.passFile(wanted, jobs.fileOf(job));
            jobs.finish(job);
            if (worker.time > jobs.deadlineOf(job)) {
                late++;
            }
        }
        return late;
    }

    public int done() {
        return jobs.doneCount;
    }

    // ---- labels

    public int lose(int tape) throws IndexOutOfBoundsException, IllegalStateException {
        Tape loser = tapeNumbered(tape);
        if (loser.isInDrive() || !loser.hasLabel) {
            throw new IllegalStateException("tape in a drive, or without a label");
        }
        loser.hasLabel = false;
        return countWithoutLabels();
    }

    public int inventory() {
        int time = LABEL_TIME * countWithoutLabels() + SLOT_TIME * highestSlotWithTape();
        for (Tape each : tapes) {
            if (each != null) {
                each.hasLabel = true;
            }
        }
        return time;
    }

    // ---- what the calls share

    private Tape tapeNumbered(int number) {
        Tape found = number >= 0 && number < tapes.length ? tapes[number] : null;
        if (found == null) {
            throw new IndexOutOfBoundsException("no such tape");
        }
        return found;
    }

    private Drive driveNumbered(int number) {
        Drive found = number >= 0 && number < drives.length ? drives[number] : null;
        if (found == null) {
            throw new IndexOutOfBoundsException("no such drive");
        }
        return found;
    }

    private static Tape mountedIn(Drive holder) {
        Tape found = holder.mounted;
        if (found == null) {
            throw new IllegalStateException("drive has no tape");
        }
        return found;
    }

    private static void refuseMissingFile(Tape holder, int file) {
        if (file < 0 || file >= holder.fileCount) {
            throw new IndexOutOfBoundsException("no such file");
        }
    }

    private static void refuseUnclean(Drive worker) {
        if (worker.wantsCleaning()) {
            throw new IllegalStateException("drive wants cleaning");
        }
    }

    private void measureOrders(Drive holder) {
        orders.measure(holder, mountedIn(holder), jobs);
    }

    // A tape in a drive keeps its slot, so its slot is not free either.
    private boolean isFree(int slot) {
        for (Tape each : tapes) {
            if (each != null && each.slot == slot) {
                return false;
            }
        }
        return true;
    }

    // There are more slots than tapes, so one is always free for a new tape.
    private int lowestFreeSlot() {
        int slot = 0;
        while (slot < SLOTS && !isFree(slot)) {
            slot++;
        }
        return slot;
    }

    // The slot 0 stands for no tape as well: in both cases the robot makes no step.
    private int highestSlotWithTape() {
        int highest = 0;
        for (Tape each : tapes) {
            if (each != null && !each.isInDrive()) {
                highest = Math.max(highest, each.slot);
            }
        }
        return highest;
    }

    private int countWithoutLabels() {
        int count = 0;
        for (Tape each : tapes) {
            if (each != null && !each.hasLabel) {
                count++;
            }
        }
        return count;
    }

    // at and put look at each index, so that the machine never has to.
    private static int at(int[] row, int index) {
        return index >= 0 && index < row.length ? row[index] : 0;
    }

    private static void put(int[] row, int index, int value) {
        if (index >= 0 && index < row.length) {
            row[index] = value;
        }
    }

    private static final class Tape {
        private final int number;
        private final int tracks;
        private final int length;
        private int slot;
        private int driveNumber = NONE;
        private boolean hasLabel = true;
        private int fileCount = 0;
        // One border more than files: a file ends where the next one begins.
        private final int[] borders = new int[MOST_FILES + 1];

        private Tape(int number, int tracks, int length, int slot) {
            this.number = number;
            this.tracks = tracks;
            this.length = length;
            this.slot = slot;
        }

        private boolean isInDrive() {
            return driveNumber != NONE;
        }

        private int places() {
            return tracks * length;
        }

        private int beginOf(int file) {
            return at(borders, file);
        }

        private int endOf(int file) {
            return at(borders, file + 1);
        }

        private boolean hasRoomFor(int blocks) {
            return fileCount < MOST_FILES && beginOf(fileCount) + blocks <= places();
        }

        private int append(int blocks) {
            put(borders, fileCount + 1, beginOf(fileCount) + blocks);
            fileCount++;
            return fileCount - 1;
        }

        // The place behind a full tape has no track of its own; it counts as the last one.
        private int trackOf(int place) {
            int track = length > 0 ? place / length : 0;
            return track < tracks ? track : tracks - 1;
        }

        private int distanceAlong(int place) {
            int track = trackOf(place);
            int onTrack = Math.min(place - track * length, length - 1);
            return (track & 1) == 0 ? onTrack : length - 1 - onTrack;
        }
    }

    private static final class Drive {
        private final int number;
        private final int pace;
        private final int step;
        private Tape mounted = null;
        private int place = NONE;
        private int time = 0;
        private int filesSinceCleaning = 0;

        private Drive(int number, int pace, int step) {
            this.number = number;
            this.pace = pace;
            this.step = step;
        }

        private boolean wantsCleaning() {
            return filesSinceCleaning >= FILES_UNTIL_CLEANING;
        }

        private int spend(int spent) {
            time += spent;
            return spent;
        }

        private int robotTime(int slot) {
            int home = SLOTS_FROM_DRIVE_TO_DRIVE * number;
            return HANDLING_TIME + SLOT_TIME * Math.abs(home - slot);
        }

        private int wayTime(Tape on, int from, int to) {
            int distance = Math.abs(on.distanceAlong(from) - on.distanceAlong(to));
            int tracksApart = Math.abs(on.trackOf(from) - on.trackOf(to));
            return distance * pace + tracksApart * step;
        }

        private int fileTime(Tape on, int from, int file) {
            int begin = on.beginOf(file);
            return wayTime(on, from, begin) + BLOCK_TIME * (on.endOf(file) - begin);
        }

        // Reading and writing differ in nothing that the drive counts.
        private int passFile(Tape on, int file) {
            int spent = fileTime(on, place, file);
            place = on.endOf(file);
            filesSinceCleaning++;
            return spend(spent);
        }
    }

    private static final class Jobs {
        private int count = 0;
        private int doneCount = 0;
        // NONE when the job is done: then it waits at no tape.
        private final int[] waitsAt = new int[MOST_JOBS];
        private final int[] files = new int[MOST_JOBS];
        private final int[] deadlines = new int[MOST_JOBS];

        private int enter(int tape, int file, int deadline) {
            put(waitsAt, count, tape);
            put(files, count, file);
            put(deadlines, count, deadline);
            count++;
            return count - 1;
        }

        private void finish(int job) {
            put(waitsAt, job, NONE);
            doneCount++;
        }

        private int fileOf(int job) {
            return at(files, job);
        }

        private int deadlineOf(int job) {
            return at(deadlines, job);
        }

        private int countAt(int tape) {
            int found = 0;
            for (int job = 0; job < count; job++) {
                if (at(waitsAt, job) == tape) {
                    found++;
                }
            }
            return found;
        }

        private int earliestDeadlineAt(int tape) {
            int earliest = LAST_DEADLINE;
            for (int job = 0; job < count; job++) {
                if (at(waitsAt, job) == tape) {
                    earliest = Math.min(earliest, at(deadlines, job));
                }
            }
            return earliest;
        }

        // The jobs come out by rising numbers; the insertion and the choice among best orders need that.
        private int collectAt(int tape, int[] found) {
            int size = 0;
            for (int job = 0; job < count; job++) {
                if (at(waitsAt, job) == tape) {
                    put(found, size, job);
                    size++;
                }
            }
            return Math.min(size, found.length);
        }
    }

    /**
     * The orders of the jobs that wait at one tape. An order holds indexes into numbers, not numbers of
     * jobs; both rise together. All rows are made once and used by every call again.
     */
    private static final class Orders {
        // The row of legs that begins where the drive stands, behind those that begin behind a job.
        private static final int STAND = MOST_WAITING;
        private static final int ALL_ORDERS = 7 * 6 * 5 * 4 * 3 * 2;

        private int count = 0;
        private final int[] numbers = new int[MOST_WAITING];
        private final int[] legs = new int[(MOST_WAITING + 1) * MOST_WAITING];
        private final int[] rests = new int[(1 << MOST_WAITING) * MOST_WAITING];
        private final int[] best = new int[MOST_WAITING];
        private final int[] order = new int[MOST_WAITING];

        private void measure(Drive drive, Tape tape, Jobs jobs) {
            count = jobs.collectAt(tape.number, numbers);
            for (int to = 0; to < count; to++) {
                int file = jobs.fileOf(at(numbers, to));
                put(legs, STAND * MOST_WAITING + to, drive.fileTime(tape, drive.place, file));
                for (int from = 0; from < count; from++) {
                    int behind = tape.endOf(jobs.fileOf(at(numbers, from)));
                    put(legs, from * MOST_WAITING + to, drive.fileTime(tape, behind, file));
                }
            }
        }

        private int leg(int from, int to) {
            return at(legs, from * MOST_WAITING + to);
        }

        private int timeOf(int[] row, int size) {
            int time = 0;
            int from = STAND;
            for (int place = 0; place < size; place++) {
                int to = at(row, place);
                time += leg(from, to);
                from = to;
            }
            return time;
        }

        private int bestJobAt(int place) {
            return at(numbers, at(best, place));
        }

        // What is left to do depends only on which jobs were read and on the last one of them, so
        // sets of jobs (a bit for each) take the place of orders; a larger set is a larger number.
        private void findBest() {
            for (int read = (1 << count) - 1; read > 0; read--) {
                for (int last = 0; last < count; last++) {
                    put(rests, read * MOST_WAITING + last, restBehind(read, last));
                }
            }
            int read = 0;
            int last = STAND;
            for (int place = 0; place < count; place++) {
                last = bestFollower(read, last);
                put(best, place, last);
                read |= 1 << last;
            }
        }

        private int restBehind(int read, int last) {
            int follower = bestFollower(read, last);
            return follower == NONE ? 0 : restThrough(read, last, follower);
        }

        private int restThrough(int read, int last, int follower) {
            return leg(last, follower) + at(rests, (read | 1 << follower) * MOST_WAITING + follower);
        }

        // Only a lesser time takes the place of an earlier find, so the lower job wins among equals.
        private int bestFollower(int read, int last) {
            int found = NONE;
            int foundTime = 0;
            for (int follower = 0; follower < count; follower++) {
                if ((read >> follower & 1) == 0) {
                    int time = restThrough(read, last, follower);
                    if (found == NONE || time < foundTime) {
                        found = follower;
                        foundTime = time;
                    }
                }
            }
            return found;
        }

        private int timeByTrying() {
            for (int place = 0; place < count; place++) {
                put(order, place, place);
            }
            int least = timeOf(order, count);
            for (int tried = 1; tried < ALL_ORDERS && advanceOrder(); tried++) {
                least = Math.min(least, timeOf(order, count));
            }
            return least;
        }

        // Orders follow one another as in a dictionary, so that none is left out; false behind the last.
        private boolean advanceOrder() {
            int turn = count - 2;
            while (turn >= 0 && at(order, turn) > at(order, turn + 1)) {
                turn--;
            }
            if (turn < 0) {
                return false;
            }
            int larger = count - 1;
            while (larger > turn && at(order, larger) < at(order, turn)) {
                larger--;
            }
            swap(turn, larger);
            int low = turn + 1;
            int high = count - 1;
            while (low < high) {
                swap(low, high);
                low++;
                high--;
            }
            return true;
        }

        private int timeByInsertion() {
            for (int job = 0; job < count; job++) {
                insert(job);
            }
            return timeOf(order, count);
        }

        // The jobs come by rising numbers, so the order holds as many of them as the job's own index.
        private void insert(int job) {
            put(order, job, job);
            int least = timeOf(order, job + 1);
            int leastPlace = job;
            for (int place = job - 1; place >= 0; place--) {
                swap(place, place + 1);
                int time = timeOf(order, job + 1);
                if (time <= least) {
                    least = time;
                    leastPlace = place;
                }
            }
            for (int place = 0; place < leastPlace; place++) {
                swap(place, place + 1);
            }
        }

        private void swap(int one, int other) {
            int kept = at(order, one);
            put(order, one, at(order, other));
            put(order, other, kept);
        }
    }
}
