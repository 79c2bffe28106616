import java.util.NoSuchElementException;

/** An audio guide for hikers: a map of waypoints and trails, a tour on it, a battery, programs and undo. */
public final class TrailGuide {
    private static final int MAX_WAYPOINTS = 12;
    private static final int MAX_COORDINATE = 99;
    private static final int MAX_RADIUS = 9;
    private static final int MAX_LENGTH = 99;
    private static final int MAX_BATTERY = 1000;
    private static final int MAX_CHARGE = 999;
    private static final int MAX_MODE = 2;
    private static final int MAX_TOLERANCE = 30;
    private static final int MAX_UNDO = 8;
    private static final int MAX_TEXT = 60;
    private static final int MAX_LINE = 80;
    // The shortest command has 4 characters, and a semicolon stands between two.
    private static final int MAX_COMMANDS = MAX_TEXT / 5 + 1;
    private static final int MAX_ARGUMENTS = 3;
    // Far above every drift on the grid of coordinates, which stays below 141.
    private static final int MAX_DRIFT = 1000;

    private static final int SPEAKING_COST = 3;
    private static final int ALARM_COST = 5;

    private static final int NONE = -1;
    // Longer than every path, and small enough that adding a trail can't wrap around.
    private static final int UNREACHED = 1000000;

    private static final int NO_FAULT = 0;
    private static final int FAULT_INDEX = 1;
    private static final int FAULT_ARGUMENT = 2;
    private static final int FAULT_STATE = 3;
    private static final int FAULT_ELEMENT = 4;
    private static final int FAULT_UNSUPPORTED = 5;

    private static final int POINT = 0;
    private static final int TRAIL = 1;
    private static final int CUT = 2;
    private static final int TOUR = 3;
    private static final int MODE = 4;
    private static final int LIMIT = 5;
    private static final int CHARGE = 6;
    private static final int MOVE = 7;
    private static final int STOP = 8;
    private static final int KINDS = 9;

    private final Guide guide;
    private final History history;
    private final State saved;
    private final State beforeRun;
    private final Program program;
    private final Line line;
    private boolean isSaved;
    private int recordedError;
    private int recordedFailure;

    public TrailGuide() {
        guide = new Guide();
        history = new History();
        saved = new State();
        beforeRun = new State();
        program = new Program();
        line = new Line();
        isSaved = false;
        recordedError = NONE;
        recordedFailure = NONE;
    }

    // ---- the map

    public int addWaypoint(int x, int y, int radius) throws IllegalArgumentException, IllegalStateException {
        return change(POINT, x, y, radius);
    }

    public int addTrail(int one, int other, int length)
            throws IndexOutOfBoundsException, IllegalArgumentException, IllegalStateException {
        return change(TRAIL, one, other, length);
    }

    public int removeTrail(int one, int other) throws IndexOutOfBoundsException, NoSuchElementException {
        return change(CUT, one, other, 0);
    }

    // ---- tours

    public int startTour(int from, int to) throws IndexOutOfBoundsException, IllegalArgumentException,
            IllegalStateException, NoSuchElementException {
        return change(TOUR, from, to, 0);
    }

    public int stopTour() throws IllegalStateException {
        return change(STOP, 0, 0, 0);
    }

    public boolean update(int x, int y)
            throws IllegalArgumentException, IllegalStateException, UnsupportedOperationException {
        return change(MOVE, x, y, 0) == 1;
    }

    public int setTolerance(int tolerance) throws IllegalArgumentException {
        return change(LIMIT, tolerance, 0, 0);
    }

    public int setMode(int mode) throws IllegalArgumentException {
        return change(MODE, mode, 0, 0);
    }

    public int charge(int units) throws IllegalArgumentException {
        return change(CHARGE, units, 0, 0);
    }

    // ---- properties of the map

    public int waypoints() {
        return guide.state.map.count;
    }

    public int waypointX(int waypoint) throws IndexOutOfBoundsException {
        requireWaypoint(waypoint);
        return guide.state.map.xOf(waypoint);
    }

    public int waypointY(int waypoint) throws IndexOutOfBoundsException {
        requireWaypoint(waypoint);
        return guide.state.map.yOf(waypoint);
    }

    public int radius(int waypoint) throws IndexOutOfBoundsException {
        requireWaypoint(waypoint);
        return guide.state.map.radiusOf(waypoint);
    }

    public int trails() {
        return guide.state.map.trailCount;
    }

    public boolean hasTrail(int one, int other) throws IndexOutOfBoundsException {
        requireWaypoint(one);
        requireWaypoint(other);
        return guide.state.map.areJoined(one, other);
    }

    public int trailLength(int one, int other) throws IndexOutOfBoundsException, NoSuchElementException {
        requireWaypoint(one);
        requireWaypoint(other);
        if (!guide.state.map.areJoined(one, other)) {
            throw new NoSuchElementException("no trail between the waypoints");
        }
        return guide.state.map.lengthBetween(one, other);
    }

    public int distance(int one, int other) throws IndexOutOfBoundsException, NoSuchElementException {
        requireWaypoint(one);
        requireWaypoint(other);
        guide.paths.settleFrom(guide.state.map, one);
        int found = guide.paths.settledDistance(other);
        requirePath(found);
        return found;
    }

    public int distanceByRelaxation(int one, int other) throws IndexOutOfBoundsException, NoSuchElementException {
        requireWaypoint(one);
        requireWaypoint(other);
        guide.paths.relaxFrom(guide.state.map, one);
        int found = guide.paths.relaxedDistance(other);
        requirePath(found);
        return found;
    }

    public int components() {
        return guide.paths.countBySearch(guide.state.map);
    }

    public int componentsByMerging() {
        return guide.paths.countByMerging(guide.state.map);
    }

    public int nearest(int x, int y) throws IllegalArgumentException, NoSuchElementException {
        requireCoordinates(x, y);
        int found = guide.state.map.closestTo(x, y);
        if (found == NONE) {
            throw new NoSuchElementException("no waypoints");
        }
        return found;
    }

    // ---- properties of the tour

    public boolean isTouring() {
        return guide.state.tour.isOn();
    }

    public int routeLength() throws IllegalStateException {
        requireTour();
        return guide.state.tour.count;
    }

    public int routeWaypoint(int index) throws IllegalStateException, IndexOutOfBoundsException {
        requireTour();
        requireRouteIndex(index);
        return guide.state.tour.waypointAt(index);
    }

    public char turn(int index) throws IllegalStateException, IndexOutOfBoundsException, NoSuchElementException {
        requireTour();
        requireRouteIndex(index);
        if (!guide.state.tour.isInner(index)) {
            throw new NoSuchElementException("no turn at an end of the route");
        }
        return guide.turnAt(index);
    }

    public int target() throws IllegalStateException {
        requireTour();
        return guide.state.tour.targetWaypoint();
    }

    public int hikerX() throws IllegalStateException {
        requireTour();
        return guide.state.tour.x;
    }

    public int hikerY() throws IllegalStateException {
        requireTour();
        return guide.state.tour.y;
    }

    public int drift() throws IllegalStateException {
        requireTour();
        guide.measureDrift(guide.state.tour.x, guide.state.tour.y);
        return guide.drift.roundedDown();
    }

    public boolean isAlarm() {
        return guide.state.tour.alarm;
    }

    public char forecast(int x, int y) throws IllegalArgumentException, IllegalStateException {
        requireCoordinates(x, y);
        requireTour();
        if (guide.reachesTarget(x, y)) {
            return 't';
        }
        guide.measureDrift(x, y);
        return guide.drift.isAbove(guide.state.meter.tolerance) ? 'a' : 'q';
    }

    // ---- the battery and statistics

    public int battery() {
        return guide.state.meter.battery;
    }

    public int mode() {
        return guide.state.meter.mode;
    }

    public int tolerance() {
        return guide.state.meter.tolerance;
    }

    public int updatesLeft() {
        return guide.state.meter.leftByDivision();
    }

    public int updatesLeftByCounting() {
        return guide.state.meter.leftByCounting();
    }

    public int updates() {
        return guide.state.meter.updates;
    }

    public int alarms() {
        return guide.state.meter.alarms;
    }

    public int reached() {
        return guide.state.meter.reached;
    }

    public float alarmRate() throws ArithmeticException {
        int divisor = guide.state.meter.updates;
        if (divisor == 0) {
            throw new ArithmeticException("no updates");
        }
        return (float) guide.state.meter.alarms / (float) divisor;
    }

    public double meanTrailLength() throws ArithmeticException {
        int divisor = guide.state.map.trailCount;
        if (divisor == 0) {
            throw new ArithmeticException("no trails");
        }
        return (double) guide.state.map.sumOfLengths() / (double) divisor;
    }

    public boolean isConsistent() {
        State state = guide.state;
        return guide.paths.distancesAgree(state.map)
                && guide.paths.countBySearch(state.map) == guide.paths.countByMerging(state.map)
                && state.meter.leftByDivision() == state.meter.leftByCounting()
                && (state.tour.isOn() || !state.tour.alarm);
    }

    // ---- output

    public int writeRoute() {
        Tour tour = guide.state.tour;
        line.clear();
        for (int index = 0; index < tour.count; index++) {
            if (index > 0) {
                line.putSign(' ');
            }
            if (index == tour.targetIndex) {
                line.putSign('*');
            }
            line.putNumber(tour.waypointAt(index));
            if (tour.isInner(index)) {
                line.putSign(guide.turnAt(index));
            }
        }
        return line.length;
    }

    public int writeTrails(int waypoint) throws IndexOutOfBoundsException {
        requireWaypoint(waypoint);
        TrailMap map = guide.state.map;
        line.clear();
        for (int other = 0; other < map.count; other++) {
            if (map.areJoined(waypoint, other)) {
                line.putSign('-');
                line.putNumber(other);
                line.putSign('=');
                line.putNumber(map.lengthBetween(waypoint, other));
            }
        }
        return line.length;
    }

    public char charAt(int index) throws IndexOutOfBoundsException {
        if (index < 0 || index >= line.length) {
            throw new IndexOutOfBoundsException("no such character");
        }
        return line.signAt(index);
    }

    // ---- programs

    public int type(char character) throws IllegalStateException {
        if (program.isFull()) {
            throw new IllegalStateException("the program buffer is full");
        }
        return program.append(character);
    }

    public int run() throws IllegalArgumentException, UnsupportedOperationException {
        boolean parsed = program.parse();
        program.empty();
        if (!parsed) {
            recordedError = program.position;
            throw new IllegalArgumentException("not a program");
        }
        beforeRun.takeFrom(guide.state);
        int failed = firstFailure();
        if (failed != NONE) {
            guide.state.takeFrom(beforeRun);
            recordedFailure = failed;
            throw new UnsupportedOperationException("a command failed");
        }
        history.keep(beforeRun);
        return program.count;
    }

    public int errorPosition() throws NoSuchElementException {
        if (recordedError == NONE) {
            throw new NoSuchElementException("every text was a program");
        }
        return recordedError;
    }

    public int failedCommand() throws NoSuchElementException {
        if (recordedFailure == NONE) {
            throw new NoSuchElementException("no command failed");
        }
        return recordedFailure;
    }

    // ---- undo and snapshots

    public int undo() throws IllegalStateException {
        if (history.count == 0) {
            throw new IllegalStateException("no change can be undone");
        }
        history.takeBack(guide.state);
        return history.count;
    }

    public int save() {
        saved.takeFrom(guide.state);
        isSaved = true;
        return saved.map.count;
    }

    public int restore() throws IllegalStateException {
        if (!isSaved) {
            throw new IllegalStateException("no state was saved");
        }
        guide.state.takeFrom(saved);
        history.forget();
        return guide.state.map.count;
    }

    // ---- helpers of the face

    private int change(int kind, int first, int second, int third) {
        refuse(guide.faultOf(kind, first, second, third));
        history.keep(guide.state);
        return guide.perform(kind, first, second, third);
    }

    /** Executes the parsed commands up to the first that fails, and answers its number or NONE. */
    private int firstFailure() {
        for (int number = 0; number < program.count; number++) {
            int kind = program.kindOf(number);
            int first = program.argumentOf(number, 0);
            int second = program.argumentOf(number, 1);
            int third = program.argumentOf(number, 2);
            if (guide.faultOf(kind, first, second, third) != NO_FAULT) {
                return number;
            }
            guide.perform(kind, first, second, third);
        }
        return NONE;
    }

    private static void refuse(int fault) {
        switch (fault) {
            case FAULT_INDEX:
                throw new IndexOutOfBoundsException("no such waypoint");
            case FAULT_ARGUMENT:
                throw new IllegalArgumentException("an argument is out of range");
            case FAULT_STATE:
                throw new IllegalStateException("not possible in this state");
            case FAULT_ELEMENT:
                throw new NoSuchElementException("no such trail or path");
            case FAULT_UNSUPPORTED:
                throw new UnsupportedOperationException("the battery is empty");
            default:
                return;
        }
    }

    private void requireWaypoint(int waypoint) {
        if (!guide.state.map.exists(waypoint)) {
            throw new IndexOutOfBoundsException("no such waypoint");
        }
    }

    private static void requirePath(int found) {
        if (found >= UNREACHED) {
            throw new NoSuchElementException("no path between the waypoints");
        }
    }

    private static void requireCoordinates(int x, int y) {
        if (!areCoordinates(x, y)) {
            throw new IllegalArgumentException("a coordinate is out of range");
        }
    }

    private void requireTour() {
        if (!guide.state.tour.isOn()) {
            throw new IllegalStateException("no tour");
        }
    }

    private void requireRouteIndex(int index) {
        if (!guide.state.tour.hasIndex(index)) {
            throw new IndexOutOfBoundsException("no such index in the route");
        }
    }

    private static boolean isWithin(int value, int low, int high) {
        return value >= low && value <= high;
    }

    private static boolean areCoordinates(int x, int y) {
        return isWithin(x, 0, MAX_COORDINATE) && isWithin(y, 0, MAX_COORDINATE);
    }

    /** The waypoints and trails. */
    private static final class TrailMap {
        final int[] xs = new int[MAX_WAYPOINTS];
        final int[] ys = new int[MAX_WAYPOINTS];
        final int[] radii = new int[MAX_WAYPOINTS];
        // Both directions of each trail, 0 where there is none.
        final int[] lengths = new int[MAX_WAYPOINTS * MAX_WAYPOINTS];
        int count;
        int trailCount;

        void takeFrom(TrailMap source) {
            System.arraycopy(source.xs, 0, xs, 0, MAX_WAYPOINTS);
            System.arraycopy(source.ys, 0, ys, 0, MAX_WAYPOINTS);
            System.arraycopy(source.radii, 0, radii, 0, MAX_WAYPOINTS);
            System.arraycopy(source.lengths, 0, lengths, 0, MAX_WAYPOINTS * MAX_WAYPOINTS);
            count = source.count;
            trailCount = source.trailCount;
        }

        boolean isFull() {
            return count >= MAX_WAYPOINTS;
        }

        boolean exists(int waypoint) {
            return waypoint >= 0 && waypoint < count;
        }

        int xOf(int waypoint) {
            return waypoint >= 0 && waypoint < MAX_WAYPOINTS ? xs[waypoint] : 0;
        }

        int yOf(int waypoint) {
            return waypoint >= 0 && waypoint < MAX_WAYPOINTS ? ys[waypoint] : 0;
        }

        int radiusOf(int waypoint) {
            return waypoint >= 0 && waypoint < MAX_WAYPOINTS ? radii[waypoint] : 0;
        }

        int lengthBetween(int one, int other) {
            if (one < 0 || one >= MAX_WAYPOINTS || other < 0 || other >= MAX_WAYPOINTS) {
                return 0;
            }
            return lengths[one * MAX_WAYPOINTS + other];
        }

        boolean areJoined(int one, int other) {
            return lengthBetween(one, other) > 0;
        }

        int append(int x, int y, int radius) {
            int waypoint = count;
            if (waypoint < 0 || waypoint >= MAX_WAYPOINTS) {
                return NONE;
            }
            xs[waypoint] = x;
            ys[waypoint] = y;
            radii[waypoint] = radius;
            count++;
            return waypoint;
        }

        int join(int one, int other, int length) {
            setLength(one, other, length);
            trailCount++;
            return trailCount;
        }

        int cut(int one, int other) {
            int length = lengthBetween(one, other);
            setLength(one, other, 0);
            trailCount--;
            return length;
        }

        private void setLength(int one, int other, int length) {
            if (one >= 0 && one < MAX_WAYPOINTS && other >= 0 && other < MAX_WAYPOINTS) {
                lengths[one * MAX_WAYPOINTS + other] = length;
                lengths[other * MAX_WAYPOINTS + one] = length;
            }
        }

        int sumOfLengths() {
            int sum = 0;
            for (int one = 0; one < count; one++) {
                for (int other = one + 1; other < count; other++) {
                    sum += lengthBetween(one, other);
                }
            }
            return sum;
        }

        int squareTo(int waypoint, int x, int y) {
            int dx = x - xOf(waypoint);
            int dy = y - yOf(waypoint);
            return dx * dx + dy * dy;
        }

        int closestTo(int x, int y) {
            int best = NONE;
            for (int waypoint = 0; waypoint < count; waypoint++) {
                if (best == NONE || squareTo(waypoint, x, y) < squareTo(best, x, y)) {
                    best = waypoint;
                }
            }
            return best;
        }
    }

    /** Shortest paths and components; it holds rows of work that are used again in each call. */
    private static final class Paths {
        final int[] settledRow = new int[MAX_WAYPOINTS];
        final int[] relaxedRow = new int[MAX_WAYPOINTS];
        final int[] leaders = new int[MAX_WAYPOINTS];
        final boolean[] marks = new boolean[MAX_WAYPOINTS];

        int settledDistance(int waypoint) {
            return isWithin(waypoint, 0, MAX_WAYPOINTS - 1) ? settledRow[waypoint] : UNREACHED;
        }

        int relaxedDistance(int waypoint) {
            return isWithin(waypoint, 0, MAX_WAYPOINTS - 1) ? relaxedRow[waypoint] : UNREACHED;
        }

        private void clearMarks() {
            for (int waypoint = 0; waypoint < MAX_WAYPOINTS; waypoint++) {
                marks[waypoint] = false;
            }
        }

        private static void startRow(int[] row, int start) {
            for (int waypoint = 0; waypoint < MAX_WAYPOINTS && waypoint < row.length; waypoint++) {
                row[waypoint] = waypoint == start ? 0 : UNREACHED;
            }
        }

        void settleFrom(TrailMap map, int start) {
            startRow(settledRow, start);
            clearMarks();
            for (int round = 0; round < MAX_WAYPOINTS; round++) {
                int next = closestUnmarked();
                if (next == NONE) {
                    return;
                }
                marks[next] = true;
                for (int other = 0; other < map.count; other++) {
                    if (map.areJoined(next, other)) {
                        shorten(settledRow, next, other, map.lengthBetween(next, other));
                    }
                }
            }
        }

        private int closestUnmarked() {
            int best = NONE;
            int least = UNREACHED;
            for (int waypoint = 0; waypoint < MAX_WAYPOINTS; waypoint++) {
                if (!marks[waypoint] && settledRow[waypoint] < least) {
                    best = waypoint;
                    least = settledRow[waypoint];
                }
            }
            return best;
        }

        /** Whether the way to other got shorter by the trail that comes from one. */
        private static boolean shorten(int[] row, int one, int other, int length) {
            if (!isWithin(one, 0, row.length - 1) || !isWithin(other, 0, row.length - 1)) {
                return false;
            }
            if (row[one] >= UNREACHED || row[one] + length >= row[other]) {
                return false;
            }
            row[other] = row[one] + length;
            return true;
        }

        void relaxFrom(TrailMap map, int start) {
            startRow(relaxedRow, start);
            boolean changed = true;
            // A shortest path has fewer trails than there are waypoints, so more rounds change nothing.
            for (int round = 0; changed && round < MAX_WAYPOINTS; round++) {
                changed = relaxAll(map);
            }
        }

        private boolean relaxAll(TrailMap map) {
            boolean changed = false;
            for (int one = 0; one < map.count; one++) {
                for (int other = 0; other < map.count; other++) {
                    if (map.areJoined(one, other)
                            && shorten(relaxedRow, one, other, map.lengthBetween(one, other))) {
                        changed = true;
                    }
                }
            }
            return changed;
        }

        boolean distancesAgree(TrailMap map) {
            for (int start = 0; start < map.count; start++) {
                settleFrom(map, start);
                relaxFrom(map, start);
                for (int other = 0; other < map.count; other++) {
                    if (settledDistance(other) != relaxedDistance(other)) {
                        return false;
                    }
                }
            }
            return true;
        }

        /** The waypoint behind current on the way to the waypoint that settleFrom started from. */
        int nextTowardsStart(TrailMap map, int current) {
            for (int other = 0; other < map.count; other++) {
                if (map.areJoined(current, other)
                        && settledDistance(other) + map.lengthBetween(current, other) == settledDistance(current)) {
                    return other;
                }
            }
            return NONE;
        }

        int countBySearch(TrailMap map) {
            clearMarks();
            int found = 0;
            for (int waypoint = 0; waypoint < map.count && waypoint < MAX_WAYPOINTS; waypoint++) {
                if (!marks[waypoint]) {
                    found++;
                    search(map, marks, waypoint, 1);
                }
            }
            return found;
        }

        // Each level marks a waypoint of its own, so that the limit of waypoints is the limit of depth.
        private static void search(TrailMap map, boolean[] seen, int waypoint, int depth) {
            if (depth > MAX_WAYPOINTS || waypoint < 0 || waypoint >= seen.length) {
                return;
            }
            seen[waypoint] = true;
            for (int other = 0; other < map.count && other < seen.length; other++) {
                if (!seen[other] && map.areJoined(waypoint, other)) {
                    search(map, seen, other, depth + 1);
                }
            }
        }

        int countByMerging(TrailMap map) {
            for (int waypoint = 0; waypoint < MAX_WAYPOINTS; waypoint++) {
                leaders[waypoint] = waypoint;
            }
            int sets = map.count;
            for (int one = 0; one < map.count; one++) {
                for (int other = one + 1; other < map.count; other++) {
                    if (map.areJoined(one, other) && merge(one, other)) {
                        sets--;
                    }
                }
            }
            return sets;
        }

        private boolean merge(int one, int other) {
            int leader = leaderOf(one);
            int follower = leaderOf(other);
            if (leader == follower || !isWithin(follower, 0, MAX_WAYPOINTS - 1)) {
                return false;
            }
            leaders[follower] = leader;
            return true;
        }

        private int leaderOf(int waypoint) {
            int current = waypoint;
            for (int step = 0; step < MAX_WAYPOINTS; step++) {
                if (!isWithin(current, 0, MAX_WAYPOINTS - 1) || leaders[current] == current) {
                    return current;
                }
                current = leaders[current];
            }
            return current;
        }
    }

    /** The route, the target, the hiker and the alarm; a route without waypoints stands for no tour. */
    private static final class Tour {
        final int[] route = new int[MAX_WAYPOINTS];
        int count;
        int targetIndex;
        int x;
        int y;
        boolean alarm;

        void takeFrom(Tour source) {
            System.arraycopy(source.route, 0, route, 0, MAX_WAYPOINTS);
            count = source.count;
            targetIndex = source.targetIndex;
            x = source.x;
            y = source.y;
            alarm = source.alarm;
        }

        boolean isOn() {
            return count > 0;
        }

        boolean hasIndex(int index) {
            return index >= 0 && index < count;
        }

        boolean isInner(int index) {
            return index > 0 && index < count - 1;
        }

        int waypointAt(int index) {
            return index >= 0 && index < count && index < MAX_WAYPOINTS ? route[index] : NONE;
        }

        int targetWaypoint() {
            return waypointAt(targetIndex);
        }

        void append(int waypoint) {
            if (count >= 0 && count < MAX_WAYPOINTS) {
                route[count] = waypoint;
                count++;
            }
        }

        void advance() {
            targetIndex++;
            if (targetIndex >= count) {
                end();
            }
        }

        void end() {
            count = 0;
            targetIndex = 0;
            alarm = false;
        }
    }

    /** The battery, the settings and the statistics. */
    private static final class Meter {
        int battery = MAX_BATTERY;
        int mode = 1;
        int tolerance = 5;
        int updates;
        int alarms;
        int reached;

        void takeFrom(Meter source) {
            battery = source.battery;
            mode = source.mode;
            tolerance = source.tolerance;
            updates = source.updates;
            alarms = source.alarms;
            reached = source.reached;
        }

        int cost() {
            switch (mode) {
                case 0:
                    return 1;
                case 1:
                    return 2;
                default:
                    return 4;
            }
        }

        void spend(int units) {
            battery = battery > units ? battery - units : 0;
        }

        int refill(int units) {
            battery = battery + units < MAX_BATTERY ? battery + units : MAX_BATTERY;
            return battery;
        }

        int exchangeMode(int next) {
            int previous = mode;
            mode = next;
            return previous;
        }

        int exchangeTolerance(int next) {
            int previous = tolerance;
            tolerance = next;
            return previous;
        }

        int leftByDivision() {
            int cost = cost();
            return cost > 0 ? (battery + cost - 1) / cost : 0;
        }

        int leftByCounting() {
            int cost = cost();
            int left = battery;
            int counted = 0;
            while (left > 0 && counted < MAX_BATTERY) {
                left -= cost;
                counted++;
            }
            return counted;
        }
    }

    /** All that is undone, saved and restored. */
    private static final class State {
        final TrailMap map = new TrailMap();
        final Tour tour = new Tour();
        final Meter meter = new Meter();

        void takeFrom(State source) {
            map.takeFrom(source.map);
            tour.takeFrom(source.tour);
            meter.takeFrom(source.meter);
        }
    }

    /** The square of a distance as a fraction, so that no root has to be drawn. */
    private static final class Drift {
        long numerator;
        long denominator = 1;

        /** Measures from the end of the way to the leg; both vectors begin where the leg begins. */
        void measure(int wayX, int wayY, int legX, int legY) {
            int along = wayX * legX + wayY * legY;
            int whole = legX * legX + legY * legY;
            denominator = 1;
            // A leg between two waypoints at one place has along 0, so that whole is not 0 as a denominator.
            if (along <= 0) {
                numerator = wayX * wayX + wayY * wayY;
            } else if (along >= whole) {
                int restX = wayX - legX;
                int restY = wayY - legY;
                numerator = restX * restX + restY * restY;
            } else {
                long cross = (long) legX * wayY - (long) legY * wayX;
                numerator = cross * cross;
                denominator = whole;
            }
        }

        boolean isAbove(int limit) {
            return numerator > (long) limit * limit * denominator;
        }

        int roundedDown() {
            int whole = 0;
            while (whole < MAX_DRIFT && (whole + 1L) * (whole + 1L) * denominator <= numerator) {
                whole++;
            }
            return whole;
        }
    }

    /** The present state with what the changes and questions need to work on it. */
    private static final class Guide {
        final State state = new State();
        final Paths paths = new Paths();
        final Drift drift = new Drift();

        /** The fault that keeps a change from being performed, of several the one that the document lists first. */
        int faultOf(int kind, int first, int second, int third) {
            switch (kind) {
                case POINT:
                    return faultOfPoint(first, second, third);
                case TRAIL:
                    return faultOfTrail(first, second, third);
                case CUT:
                    return faultOfCut(first, second);
                case TOUR:
                    return faultOfTour(first, second);
                case MODE:
                    return isWithin(first, 0, MAX_MODE) ? NO_FAULT : FAULT_ARGUMENT;
                case LIMIT:
                    return isWithin(first, 1, MAX_TOLERANCE) ? NO_FAULT : FAULT_ARGUMENT;
                case CHARGE:
                    return isWithin(first, 1, MAX_CHARGE) ? NO_FAULT : FAULT_ARGUMENT;
                case MOVE:
                    return faultOfMove(first, second);
                default:
                    return state.tour.isOn() ? NO_FAULT : FAULT_STATE;
            }
        }

        private int faultOfPoint(int x, int y, int radius) {
            if (!areCoordinates(x, y) || !isWithin(radius, 1, MAX_RADIUS)) {
                return FAULT_ARGUMENT;
            }
            return state.map.isFull() ? FAULT_STATE : NO_FAULT;
        }

        private int faultOfTrail(int one, int other, int length) {
            if (!state.map.exists(one) || !state.map.exists(other)) {
                return FAULT_INDEX;
            }
            if (one == other || !isWithin(length, 1, MAX_LENGTH)) {
                return FAULT_ARGUMENT;
            }
            return state.map.areJoined(one, other) ? FAULT_STATE : NO_FAULT;
        }

        private int faultOfCut(int one, int other) {
            if (!state.map.exists(one) || !state.map.exists(other)) {
                return FAULT_INDEX;
            }
            return state.map.areJoined(one, other) ? NO_FAULT : FAULT_ELEMENT;
        }

        private int faultOfTour(int from, int to) {
            if (!state.map.exists(from) || !state.map.exists(to)) {
                return FAULT_INDEX;
            }
            if (from == to) {
                return FAULT_ARGUMENT;
            }
            if (state.tour.isOn()) {
                return FAULT_STATE;
            }
            paths.settleFrom(state.map, to);
            return paths.settledDistance(from) < UNREACHED ? NO_FAULT : FAULT_ELEMENT;
        }

        private int faultOfMove(int x, int y) {
            if (!areCoordinates(x, y)) {
                return FAULT_ARGUMENT;
            }
            if (!state.tour.isOn()) {
                return FAULT_STATE;
            }
            return state.meter.battery > 0 ? NO_FAULT : FAULT_UNSUPPORTED;
        }

        /** Performs a change that has no fault, and answers what its method returns. */
        int perform(int kind, int first, int second, int third) {
            switch (kind) {
                case POINT:
                    return state.map.append(first, second, third);
                case TRAIL:
                    return state.map.join(first, second, third);
                case CUT:
                    return state.map.cut(first, second);
                case TOUR:
                    return beginTour(first, second);
                case MODE:
                    return state.meter.exchangeMode(first);
                case LIMIT:
                    return state.meter.exchangeTolerance(first);
                case CHARGE:
                    return state.meter.refill(first);
                case MOVE:
                    return moveHiker(first, second) ? 1 : 0;
                default:
                    return endTour();
            }
        }

        private int beginTour(int from, int to) {
            Tour tour = state.tour;
            tour.end();
            paths.settleFrom(state.map, to);
            int current = from;
            tour.append(current);
            for (int step = 1; step < MAX_WAYPOINTS && current != to; step++) {
                current = paths.nextTowardsStart(state.map, current);
                tour.append(current);
            }
            tour.targetIndex = 1;
            tour.x = state.map.xOf(from);
            tour.y = state.map.yOf(from);
            return tour.count;
        }

        private int endTour() {
            int ahead = state.tour.count - state.tour.targetIndex;
            state.tour.end();
            return ahead;
        }

        private boolean moveHiker(int x, int y) {
            Tour tour = state.tour;
            Meter meter = state.meter;
            tour.x = x;
            tour.y = y;
            meter.updates++;
            meter.spend(meter.cost());
            boolean reaches = reachesTarget(x, y);
            if (reaches) {
                meter.reached++;
                meter.spend(SPEAKING_COST);
                tour.advance();
            }
            if (tour.isOn()) {
                measureDrift(x, y);
                setAlarm(drift.isAbove(meter.tolerance));
            }
            return reaches;
        }

        private void setAlarm(boolean tooFar) {
            if (tooFar && !state.tour.alarm) {
                state.meter.alarms++;
                state.meter.spend(ALARM_COST);
            }
            state.tour.alarm = tooFar;
        }

        boolean reachesTarget(int x, int y) {
            int waypoint = state.tour.targetWaypoint();
            int radius = state.map.radiusOf(waypoint);
            return state.map.squareTo(waypoint, x, y) <= radius * radius;
        }

        void measureDrift(int x, int y) {
            TrailMap map = state.map;
            int from = state.tour.waypointAt(state.tour.targetIndex - 1);
            int to = state.tour.waypointAt(state.tour.targetIndex);
            int startX = map.xOf(from);
            int startY = map.yOf(from);
            drift.measure(x - startX, y - startY, map.xOf(to) - startX, map.yOf(to) - startY);
        }

        char turnAt(int index) {
            int before = state.tour.waypointAt(index - 1);
            int at = state.tour.waypointAt(index);
            int behind = state.tour.waypointAt(index + 1);
            int ux = state.map.xOf(at) - state.map.xOf(before);
            int uy = state.map.yOf(at) - state.map.yOf(before);
            int vx = state.map.xOf(behind) - state.map.xOf(at);
            int vy = state.map.yOf(behind) - state.map.yOf(at);
            int cross = ux * vy - uy * vx;
            if (cross != 0) {
                return cross > 0 ? 'l' : 'r';
            }
            return ux * vx + uy * vy < 0 ? 'b' : 's';
        }
    }

    /** A ring of the states before the latest changes. */
    private static final class History {
        final State[] ring = new State[MAX_UNDO];
        int next;
        int count;

        History() {
            for (int slot = 0; slot < MAX_UNDO; slot++) {
                ring[slot] = new State();
            }
        }

        private State slotAt(int index) {
            return isWithin(index, 0, MAX_UNDO - 1) ? ring[index] : null;
        }

        void keep(State state) {
            State slot = slotAt(next);
            if (slot != null) {
                slot.takeFrom(state);
            }
            next = next + 1 < MAX_UNDO ? next + 1 : 0;
            count = count < MAX_UNDO ? count + 1 : MAX_UNDO;
        }

        void takeBack(State state) {
            next = next > 0 ? next - 1 : MAX_UNDO - 1;
            count = count > 0 ? count - 1 : 0;
            State slot = slotAt(next);
            if (slot != null) {
                state.takeFrom(slot);
            }
        }

        void forget() {
            count = 0;
        }
    }

    /** The program buffer, its parser, and the commands of the text that was parsed last. */
    private static final class Program {
        final char[] text = new char[MAX_TEXT];
        final int[] kinds = new int[MAX_COMMANDS];
        final int[] arguments = new int[MAX_COMMANDS * MAX_ARGUMENTS];
        final int[] values = new int[MAX_ARGUMENTS];
        int size;
        int position;
        int count;
        int valueCount;

        boolean isFull() {
            return size >= MAX_TEXT;
        }

        int append(char character) {
            if (size >= 0 && size < MAX_TEXT) {
                text[size] = character;
                size++;
            }
            return size;
        }

        void empty() {
            size = 0;
        }

        int kindOf(int command) {
            return isWithin(command, 0, MAX_COMMANDS - 1) ? kinds[command] : NONE;
        }

        int argumentOf(int command, int index) {
            if (!isWithin(command, 0, MAX_COMMANDS - 1) || !isWithin(index, 0, MAX_ARGUMENTS - 1)) {
                return 0;
            }
            return arguments[command * MAX_ARGUMENTS + index];
        }

        /** In a pattern N stands for a number, D for a digit, M for the letter of a mode. */
        private static String patternOf(int kind) {
            switch (kind) {
                case POINT:
                    return "point N,N,D";
                case TRAIL:
                    return "trail N-N=N";
                case CUT:
                    return "cut N-N";
                case TOUR:
                    return "tour N>N";
                case MODE:
                    return "mode M";
                case LIMIT:
                    return "limit N";
                case CHARGE:
                    return "charge N";
                case MOVE:
                    return "move N,N";
                default:
                    return "stop";
            }
        }

        /** Whether the text is a program; if it is none, position is the error position. */
        boolean parse() {
            position = 0;
            count = 0;
            if (!parseCommand()) {
                return false;
            }
            for (int number = 1; number < MAX_COMMANDS && position < size; number++) {
                if (!parseSign(';') || !parseCommand()) {
                    return false;
                }
            }
            return position >= size;
        }

        private boolean parseCommand() {
            clearValues();
            int kind = parseOpening();
            if (kind == NONE) {
                return false;
            }
            String pattern = patternOf(kind);
            for (int index = openingLength(pattern); index < pattern.length(); index++) {
                if (!parsePart(pattern.charAt(index))) {
                    return false;
                }
            }
            store(kind);
            return true;
        }

        /** The kind of command whose opening stands here; if none does, position goes as far as one of them reaches. */
        private int parseOpening() {
            int furthest = 0;
            for (int kind = 0; kind < KINDS; kind++) {
                String pattern = patternOf(kind);
                int opening = openingLength(pattern);
                int common = commonLength(pattern, opening);
                if (common == opening) {
                    position += opening;
                    return kind;
                }
                furthest = common > furthest ? common : furthest;
            }
            position += furthest;
            return NONE;
        }

        private static int openingLength(String pattern) {
            int length = 0;
            while (length < pattern.length() && !isPlaceholder(pattern.charAt(length))) {
                length++;
            }
            return length;
        }

        private int commonLength(String pattern, int opening) {
            int common = 0;
            while (common < opening && common < pattern.length() && isHere(common, pattern.charAt(common))) {
                common++;
            }
            return common;
        }

        private boolean isHere(int ahead, char sign) {
            int index = position + ahead;
            return index >= 0 && index < size && index < MAX_TEXT && text[index] == sign;
        }

        private static boolean isPlaceholder(char sign) {
            return sign == 'N' || sign == 'D' || sign == 'M';
        }

        private boolean parsePart(char part) {
            switch (part) {
                case 'N':
                    return parseNumber(3);
                case 'D':
                    return parseNumber(1);
                case 'M':
                    return parseMode();
                default:
                    return parseSign(part);
            }
        }

        private boolean parseSign(char sign) {
            if (!isHere(0, sign)) {
                return false;
            }
            position++;
            return true;
        }

        private boolean parseNumber(int mostDigits) {
            int value = 0;
            int digits = 0;
            while (digits < mostDigits && digitHere() != NONE) {
                value = value * 10 + digitHere();
                position++;
                digits++;
            }
            if (digits == 0) {
                return false;
            }
            addValue(value);
            return true;
        }

        private int digitHere() {
            if (position < 0 || position >= size || position >= MAX_TEXT) {
                return NONE;
            }
            char sign = text[position];
            return sign >= '0' && sign <= '9' ? sign - '0' : NONE;
        }

        private boolean parseMode() {
            if (parseSign('e')) {
                addValue(0);
            } else if (parseSign('n')) {
                addValue(1);
            } else if (parseSign('f')) {
                addValue(2);
            } else {
                return false;
            }
            return true;
        }

        private void clearValues() {
            valueCount = 0;
            for (int index = 0; index < MAX_ARGUMENTS; index++) {
                values[index] = 0;
            }
        }

        private void addValue(int value) {
            if (isWithin(valueCount, 0, MAX_ARGUMENTS - 1)) {
                values[valueCount] = value;
                valueCount++;
            }
        }

        private void store(int kind) {
            if (!isWithin(count, 0, MAX_COMMANDS - 1)) {
                return;
            }
            kinds[count] = kind;
            for (int index = 0; index < MAX_ARGUMENTS; index++) {
                arguments[count * MAX_ARGUMENTS + index] = values[index];
            }
            count++;
        }
    }

    /** The output line. */
    private static final class Line {
        final char[] signs = new char[MAX_LINE];
        int length;

        void clear() {
            length = 0;
        }

        void putSign(char sign) {
            if (length >= 0 && length < MAX_LINE) {
                signs[length] = sign;
                length++;
            }
        }

        // Waypoints and the lengths of trails stay below 100.
        void putNumber(int number) {
            if (number >= 10) {
                putSign((char) ('0' + number / 10 % 10));
            }
            putSign((char) ('0' + number % 10));
        }

        char signAt(int index) {
            return index >= 0 && index < length && index < MAX_LINE ? signs[index] : ' ';
        }
    }
}
