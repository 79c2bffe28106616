/** At least one test for each promise of the document: ordinary inputs, edges and wrong inputs. */
public final class PromiseTest {
    private static final String INDEX = "IndexOutOfBoundsException";
    private static final String ARGUMENT = "IllegalArgumentException";
    private static final String STATE = "IllegalStateException";
    private static final String ELEMENT = "NoSuchElementException";
    private static final String UNSUPPORTED = "UnsupportedOperationException";
    private static final String ARITHMETIC = "ArithmeticException";

    private static final Check CHECK = new Check();

    public static void main(String[] args) {
        newObject();
        addWaypoint();
        addTrail();
        removeTrail();
        startTour();
        stopTour();
        updateReaches();
        updateRaisesAlarms();
        updateSpendsBattery();
        updateRefuses();
        setTolerance();
        setMode();
        charge();
        mapQuestions();
        trailQuestions();
        distances();
        components();
        nearest();
        routeQuestions();
        turns();
        hiker();
        drift();
        forecast();
        updatesLeft();
        statistics();
        isConsistent();
        writeRoute();
        writeTrails();
        charAt();
        type();
        runCommands();
        runSyntaxErrors();
        runFailures();
        undo();
        undoOfEachChange();
        saveAndRestore();
        CHECK.finish();
    }

    private static void due(String what, Object want, Check.Call call) {
        CHECK.due(what, want, call);
    }

    /** A map with two shortest paths from 0 to 3, one by 1 and one by 2, and a lonely waypoint 4. */
    private static TrailGuide diamond() {
        TrailGuide g = new TrailGuide();
        g.addWaypoint(10, 10, 2);
        g.addWaypoint(30, 10, 3);
        g.addWaypoint(10, 30, 3);
        g.addWaypoint(30, 30, 4);
        g.addWaypoint(99, 99, 1);
        g.addTrail(0, 1, 20);
        g.addTrail(0, 2, 10);
        g.addTrail(1, 3, 5);
        g.addTrail(2, 3, 15);
        return g;
    }

    /** Waypoints in a row, 10 apart, radius 1, with trails of length 10. */
    private static TrailGuide row(int waypoints) {
        TrailGuide g = new TrailGuide();
        for (int i = 0; i < waypoints; i++) {
            g.addWaypoint(i * 9, 0, 1);
            if (i > 0) {
                g.addTrail(i - 1, i, 10);
            }
        }
        return g;
    }

    private static String typeAndRun(TrailGuide g, String text) {
        for (int i = 0; i < text.length(); i++) {
            g.type(text.charAt(i));
        }
        return Check.answerOf(() -> g.run());
    }

    private static String lineOf(TrailGuide g, int length) {
        StringBuilder line = new StringBuilder();
        for (int i = 0; i < length; i++) {
            line.append(g.charAt(i));
        }
        return line.toString();
    }

    private static void newObject() {
        TrailGuide g = new TrailGuide();
        due("new waypoints", 0, () -> g.waypoints());
        due("new trails", 0, () -> g.trails());
        due("new isTouring", false, () -> g.isTouring());
        due("new isAlarm", false, () -> g.isAlarm());
        due("new battery", 1000, () -> g.battery());
        due("new mode", 1, () -> g.mode());
        due("new tolerance", 5, () -> g.tolerance());
        due("new updates", 0, () -> g.updates());
        due("new alarms", 0, () -> g.alarms());
        due("new reached", 0, () -> g.reached());
        due("new charAt", INDEX, () -> g.charAt(0));
        due("new undo", STATE, () -> g.undo());
        due("new restore", STATE, () -> g.restore());
        due("new errorPosition", ELEMENT, () -> g.errorPosition());
        due("new failedCommand", ELEMENT, () -> g.failedCommand());
        due("new isConsistent", true, () -> g.isConsistent());
    }

    private static void addWaypoint() {
        TrailGuide g = new TrailGuide();
        due("addWaypoint low", 0, () -> g.addWaypoint(0, 0, 1));
        due("addWaypoint high", 1, () -> g.addWaypoint(99, 99, 9));
        due("addWaypoint same place", 2, () -> g.addWaypoint(99, 99, 9));
        due("addWaypoint x -1", ARGUMENT, () -> g.addWaypoint(-1, 0, 1));
        due("addWaypoint x 100", ARGUMENT, () -> g.addWaypoint(100, 0, 1));
        due("addWaypoint y -1", ARGUMENT, () -> g.addWaypoint(0, -1, 1));
        due("addWaypoint y 100", ARGUMENT, () -> g.addWaypoint(0, 100, 1));
        due("addWaypoint radius 0", ARGUMENT, () -> g.addWaypoint(0, 0, 0));
        due("addWaypoint radius 10", ARGUMENT, () -> g.addWaypoint(0, 0, 10));
        due("addWaypoint extreme", ARGUMENT, () -> g.addWaypoint(Integer.MIN_VALUE, Integer.MAX_VALUE, 1));
        due("waypoints after refusals", 3, () -> g.waypoints());
        for (int i = 3; i < 12; i++) {
            int number = i;
            due("addWaypoint " + number, number, () -> g.addWaypoint(number, number, 1));
        }
        due("addWaypoint 13th", STATE, () -> g.addWaypoint(1, 1, 1));
        due("addWaypoint 13th out of range", ARGUMENT, () -> g.addWaypoint(1, 1, 0));
        due("waypoints full", 12, () -> g.waypoints());
    }

    private static void addTrail() {
        TrailGuide g = diamond();
        due("addTrail low", 5, () -> g.addTrail(0, 3, 1));
        due("addTrail high", 6, () -> g.addTrail(2, 1, 99));
        due("addTrail again", STATE, () -> g.addTrail(0, 3, 1));
        due("addTrail back", STATE, () -> g.addTrail(3, 0, 2));
        due("addTrail itself", ARGUMENT, () -> g.addTrail(1, 1, 5));
        due("addTrail length 0", ARGUMENT, () -> g.addTrail(0, 4, 0));
        due("addTrail length 100", ARGUMENT, () -> g.addTrail(0, 4, 100));
        due("addTrail joined with length 0", ARGUMENT, () -> g.addTrail(0, 3, 0));
        due("addTrail one -1", INDEX, () -> g.addTrail(-1, 0, 5));
        due("addTrail other 5", INDEX, () -> g.addTrail(0, 5, 5));
        due("addTrail both 5", INDEX, () -> g.addTrail(5, 5, 0));
        due("addTrail extreme", INDEX, () -> g.addTrail(Integer.MAX_VALUE, Integer.MIN_VALUE, 5));
        due("trails after refusals", 6, () -> g.trails());
        due("trailLength added", 99, () -> g.trailLength(1, 2));
    }

    private static void removeTrail() {
        TrailGuide g = diamond();
        due("removeTrail", 20, () -> g.removeTrail(0, 1));
        due("removeTrail back", 15, () -> g.removeTrail(3, 2));
        due("removeTrail again", ELEMENT, () -> g.removeTrail(1, 0));
        due("removeTrail itself", ELEMENT, () -> g.removeTrail(1, 1));
        due("removeTrail -1", INDEX, () -> g.removeTrail(0, -1));
        due("removeTrail 5", INDEX, () -> g.removeTrail(5, 0));
        due("trails after removing", 2, () -> g.trails());
        due("hasTrail after removing", false, () -> g.hasTrail(1, 0));
        due("addTrail after removing", 3, () -> g.addTrail(1, 0, 7));
    }

    private static void startTour() {
        TrailGuide g = diamond();
        due("startTour -1", INDEX, () -> g.startTour(-1, 0));
        due("startTour 5", INDEX, () -> g.startTour(0, 5));
        due("startTour both 5", INDEX, () -> g.startTour(5, 5));
        due("startTour itself", ARGUMENT, () -> g.startTour(4, 4));
        due("startTour without path", ELEMENT, () -> g.startTour(0, 4));
        due("startTour", 3, () -> g.startTour(0, 3));
        due("the smaller waypoint comes next", 1, () -> g.routeWaypoint(1));
        due("startTour during a tour", STATE, () -> g.startTour(0, 3));
        due("startTour during a tour without path", STATE, () -> g.startTour(0, 4));
        due("startTour during a tour itself", ARGUMENT, () -> g.startTour(0, 0));
        due("removeTrail during a tour", 20, () -> g.removeTrail(0, 1));
        due("the route stays", 1, () -> g.routeWaypoint(1));
        due("stopTour", 2, () -> g.stopTour());
        due("startTour by 2", 3, () -> g.startTour(0, 3));
        due("route by 2", 2, () -> g.routeWaypoint(1));

        TrailGuide h = diamond();
        h.removeTrail(0, 2);
        h.addTrail(0, 2, 9);
        due("startTour shorter path", 3, () -> h.startTour(0, 3));
        due("the shorter path wins", 2, () -> h.routeWaypoint(1));

        TrailGuide r = row(12);
        due("startTour longest route", 12, () -> r.startTour(11, 0));
        due("longest route end", 0, () -> r.routeWaypoint(11));
    }

    private static void stopTour() {
        TrailGuide g = row(4);
        due("stopTour without tour", STATE, () -> g.stopTour());
        g.startTour(0, 3);
        due("stopTour at start", 3, () -> g.stopTour());
        due("isTouring stopped", false, () -> g.isTouring());
        g.startTour(0, 3);
        g.update(9, 0);
        g.update(18, 50);
        due("alarm before stop", true, () -> g.isAlarm());
        due("stopTour at second target", 2, () -> g.stopTour());
        due("alarm ends with the tour", false, () -> g.isAlarm());
        due("stopTour twice", STATE, () -> g.stopTour());
    }

    private static void updateReaches() {
        TrailGuide g = diamond();
        g.startTour(0, 3);
        due("update on radius", true, () -> g.update(30, 13));
        due("target after reaching", 3, () -> g.target());
        due("update just outside radius", false, () -> g.update(26, 29));
        due("at most one waypoint, the last one ends", true, () -> g.update(26, 30));
        due("isTouring at the end", false, () -> g.isTouring());
        due("reached", 2, () -> g.reached());
        due("updates", 3, () -> g.updates());
        due("battery after reaching", 1000 - 3 * 2 - 2 * 3, () -> g.battery());

        TrailGuide h = new TrailGuide();
        for (int i = 0; i < 3; i++) {
            h.addWaypoint(i, 0, 9);
        }
        h.addTrail(0, 1, 1);
        h.addTrail(1, 2, 1);
        h.startTour(0, 2);
        due("update near two targets", true, () -> h.update(1, 0));
        due("only one was reached", 1, () -> h.reached());
        due("the last is the target", 2, () -> h.target());
    }

    private static void updateRaisesAlarms() {
        TrailGuide g = diamond();
        g.startTour(0, 3);
        due("update at tolerance", false, () -> g.update(20, 15));
        due("no alarm at tolerance", false, () -> g.isAlarm());
        g.update(20, 16);
        due("alarm above tolerance", true, () -> g.isAlarm());
        due("alarms", 1, () -> g.alarms());
        due("battery after alarm", 1000 - 4 - 5, () -> g.battery());
        g.update(20, 17);
        due("alarm goes on", 1, () -> g.alarms());
        due("battery while alarm goes on", 1000 - 6 - 5, () -> g.battery());
        g.update(20, 15);
        due("alarm ends at tolerance", false, () -> g.isAlarm());
        g.update(20, 17);
        due("a second alarm", 2, () -> g.alarms());
        due("reach during an alarm", true, () -> g.update(27, 10));
        due("alarm by the new leg ends", false, () -> g.isAlarm());

        TrailGuide h = diamond();
        h.setTolerance(1);
        h.startTour(0, 3);
        due("reach off the new leg", true, () -> h.update(28, 10));
        due("alarm begins on the new leg", true, () -> h.isAlarm());
        due("battery after reach and alarm", 1000 - 2 - 3 - 5, () -> h.battery());
        due("reach the last in alarm", true, () -> h.update(34, 30));
        due("alarm ends at the end", false, () -> h.isAlarm());
        due("no alarm began at the end", 1, () -> h.alarms());
    }

    private static void updateSpendsBattery() {
        TrailGuide g = diamond();
        g.startTour(0, 3);
        g.setMode(2);
        for (int i = 0; i < 249; i++) {
            g.update(11, 10);
        }
        due("battery nearly empty", 4, () -> g.battery());
        g.setMode(0);
        g.update(11, 10);
        g.setMode(2);
        due("update with 3 units, all of it happens", true, () -> g.update(30, 13));
        due("battery never below 0", 0, () -> g.battery());
        due("reached with empty battery", 1, () -> g.reached());
        due("update with empty battery", UNSUPPORTED, () -> g.update(11, 10));
        due("update with empty battery out of range", ARGUMENT, () -> g.update(100, 10));
        due("forecast with empty battery", 't', () -> g.forecast(30, 30));
        due("updates unchanged", 251, () -> g.updates());
        due("updatesLeft empty", 0, () -> g.updatesLeft());
        due("updatesLeftByCounting empty", 0, () -> g.updatesLeftByCounting());
        g.stopTour();
        due("empty battery without tour", STATE, () -> g.update(11, 10));
        due("charge from 0", 1, () -> g.charge(1));
        g.startTour(0, 3);
        due("update with 1 unit", false, () -> g.update(20, 50));
        due("alarm with empty battery", true, () -> g.isAlarm());
        due("battery stays 0", 0, () -> g.battery());
    }

    private static void updateRefuses() {
        TrailGuide g = diamond();
        due("update without tour", STATE, () -> g.update(0, 0));
        due("update without tour out of range", ARGUMENT, () -> g.update(0, -1));
        g.startTour(0, 3);
        due("update x -1", ARGUMENT, () -> g.update(-1, 0));
        due("update x 100", ARGUMENT, () -> g.update(100, 0));
        due("update y -1", ARGUMENT, () -> g.update(0, -1));
        due("update y 100", ARGUMENT, () -> g.update(0, 100));
        due("no update counted", 0, () -> g.updates());
        due("update at the corner", false, () -> g.update(99, 99));
        due("update at the origin", false, () -> g.update(0, 0));
    }

    private static void setTolerance() {
        TrailGuide g = diamond();
        due("setTolerance 30", 5, () -> g.setTolerance(30));
        due("setTolerance 1", 30, () -> g.setTolerance(1));
        due("setTolerance 0", ARGUMENT, () -> g.setTolerance(0));
        due("setTolerance 31", ARGUMENT, () -> g.setTolerance(31));
        due("tolerance", 1, () -> g.tolerance());
        g.startTour(0, 3);
        g.update(20, 12);
        due("alarm at tolerance 1", true, () -> g.isAlarm());
        g.setTolerance(30);
        due("alarm does not end before the next update", true, () -> g.isAlarm());
        g.update(20, 12);
        due("alarm ends in the next update", false, () -> g.isAlarm());
        g.setTolerance(1);
        due("alarm does not begin before the next update", false, () -> g.isAlarm());
    }

    private static void setMode() {
        TrailGuide g = row(2);
        due("setMode 0", 1, () -> g.setMode(0));
        due("setMode 2", 0, () -> g.setMode(2));
        due("setMode -1", ARGUMENT, () -> g.setMode(-1));
        due("setMode 3", ARGUMENT, () -> g.setMode(3));
        due("mode", 2, () -> g.mode());
        g.startTour(0, 1);
        g.update(3, 0);
        due("full costs 4", 996, () -> g.battery());
        g.setMode(0);
        g.update(3, 0);
        due("eco costs 1", 995, () -> g.battery());
        g.setMode(1);
        g.update(3, 0);
        due("normal costs 2", 993, () -> g.battery());
    }

    private static void charge() {
        TrailGuide g = row(2);
        due("charge a full battery", 1000, () -> g.charge(1));
        due("charge 0", ARGUMENT, () -> g.charge(0));
        due("charge 1000", ARGUMENT, () -> g.charge(1000));
        due("charge extreme", ARGUMENT, () -> g.charge(Integer.MAX_VALUE));
        g.startTour(0, 1);
        g.update(3, 0);
        g.update(3, 0);
        due("charge partly", 999, () -> g.charge(3));
        due("charge above", 1000, () -> g.charge(999));
        due("battery charged", 1000, () -> g.battery());
    }

    private static void mapQuestions() {
        TrailGuide g = new TrailGuide();
        due("waypointX without waypoints", INDEX, () -> g.waypointX(0));
        due("waypointY without waypoints", INDEX, () -> g.waypointY(0));
        due("radius without waypoints", INDEX, () -> g.radius(0));
        g.addWaypoint(1, 2, 3);
        g.addWaypoint(4, 5, 6);
        due("waypoints", 2, () -> g.waypoints());
        due("waypointX", 4, () -> g.waypointX(1));
        due("waypointY", 5, () -> g.waypointY(1));
        due("radius", 6, () -> g.radius(1));
        due("waypointX 0", 1, () -> g.waypointX(0));
        due("waypointY 0", 2, () -> g.waypointY(0));
        due("radius 0", 3, () -> g.radius(0));
        due("waypointX 2", INDEX, () -> g.waypointX(2));
        due("waypointY 2", INDEX, () -> g.waypointY(2));
        due("radius 2", INDEX, () -> g.radius(2));
        due("waypointX -1", INDEX, () -> g.waypointX(-1));
        due("waypointY -1", INDEX, () -> g.waypointY(-1));
        due("radius -1", INDEX, () -> g.radius(-1));
    }

    private static void trailQuestions() {
        TrailGuide g = diamond();
        due("trails", 4, () -> g.trails());
        due("hasTrail", true, () -> g.hasTrail(0, 1));
        due("hasTrail back", true, () -> g.hasTrail(1, 0));
        due("hasTrail none", false, () -> g.hasTrail(0, 3));
        due("hasTrail itself", false, () -> g.hasTrail(0, 0));
        due("hasTrail -1", INDEX, () -> g.hasTrail(-1, 0));
        due("hasTrail 5", INDEX, () -> g.hasTrail(0, 5));
        due("trailLength", 15, () -> g.trailLength(2, 3));
        due("trailLength back", 15, () -> g.trailLength(3, 2));
        due("trailLength none", ELEMENT, () -> g.trailLength(0, 3));
        due("trailLength itself", ELEMENT, () -> g.trailLength(0, 0));
        due("trailLength -1", INDEX, () -> g.trailLength(0, -1));
        due("trailLength 5", INDEX, () -> g.trailLength(5, 0));
    }

    private static void distances() {
        TrailGuide g = diamond();
        due("distance", 25, () -> g.distance(0, 3));
        due("distance over two", 20, () -> g.distance(2, 1));
        due("distance itself", 0, () -> g.distance(4, 4));
        due("distance none", ELEMENT, () -> g.distance(0, 4));
        due("distance -1", INDEX, () -> g.distance(-1, 0));
        due("distance 5", INDEX, () -> g.distance(0, 5));
        due("distanceByRelaxation", 25, () -> g.distanceByRelaxation(0, 3));
        due("distanceByRelaxation over two", 20, () -> g.distanceByRelaxation(2, 1));
        due("distanceByRelaxation itself", 0, () -> g.distanceByRelaxation(4, 4));
        due("distanceByRelaxation none", ELEMENT, () -> g.distanceByRelaxation(4, 0));
        due("distanceByRelaxation -1", INDEX, () -> g.distanceByRelaxation(0, -1));
        due("distanceByRelaxation 5", INDEX, () -> g.distanceByRelaxation(5, 0));
        TrailGuide r = row(12);
        due("distance along the row", 110, () -> r.distance(11, 0));
        due("distanceByRelaxation along the row", 110, () -> r.distanceByRelaxation(11, 0));
    }

    private static void components() {
        TrailGuide g = new TrailGuide();
        due("components none", 0, () -> g.components());
        due("componentsByMerging none", 0, () -> g.componentsByMerging());
        TrailGuide d = diamond();
        due("components diamond", 2, () -> d.components());
        due("componentsByMerging diamond", 2, () -> d.componentsByMerging());
        d.removeTrail(0, 1);
        due("components without a cycle", 2, () -> d.components());
        due("componentsByMerging without a cycle", 2, () -> d.componentsByMerging());
        d.removeTrail(0, 2);
        due("components split", 3, () -> d.components());
        due("componentsByMerging split", 3, () -> d.componentsByMerging());
        TrailGuide r = row(12);
        due("components row", 1, () -> r.components());
        due("componentsByMerging row", 1, () -> r.componentsByMerging());
    }

    private static void nearest() {
        TrailGuide g = new TrailGuide();
        due("nearest none", ELEMENT, () -> g.nearest(0, 0));
        due("nearest none out of range", ARGUMENT, () -> g.nearest(0, 100));
        g.addWaypoint(10, 10, 1);
        g.addWaypoint(20, 10, 9);
        g.addWaypoint(20, 10, 9);
        due("nearest tie", 0, () -> g.nearest(15, 10));
        due("nearest", 1, () -> g.nearest(16, 10));
        due("nearest is not by the axes", 0, () -> g.nearest(14, 99));
        due("nearest x -1", ARGUMENT, () -> g.nearest(-1, 0));
        due("nearest x 100", ARGUMENT, () -> g.nearest(100, 0));
        due("nearest y -1", ARGUMENT, () -> g.nearest(0, -1));
        due("nearest corner", 1, () -> g.nearest(99, 99));
    }

    private static void routeQuestions() {
        TrailGuide g = diamond();
        due("routeLength without tour", STATE, () -> g.routeLength());
        due("routeWaypoint without tour", STATE, () -> g.routeWaypoint(-1));
        due("target without tour", STATE, () -> g.target());
        due("isTouring without tour", false, () -> g.isTouring());
        g.startTour(3, 0);
        due("isTouring", true, () -> g.isTouring());
        due("routeLength", 3, () -> g.routeLength());
        due("routeWaypoint 0", 3, () -> g.routeWaypoint(0));
        due("routeWaypoint 1", 1, () -> g.routeWaypoint(1));
        due("routeWaypoint 2", 0, () -> g.routeWaypoint(2));
        due("routeWaypoint 3", INDEX, () -> g.routeWaypoint(3));
        due("routeWaypoint -1", INDEX, () -> g.routeWaypoint(-1));
        due("target", 1, () -> g.target());
    }

    private static String turnBetween(int... places) {
        TrailGuide g = new TrailGuide();
        for (int i = 0; i < 3; i++) {
            g.addWaypoint(places[2 * i], places[2 * i + 1], 1);
        }
        g.addTrail(0, 1, 1);
        g.addTrail(1, 2, 1);
        g.startTour(0, 2);
        return Check.answerOf(() -> g.turn(1));
    }

    private static void turns() {
        due("left", 'l', () -> turnBetween(0, 0, 10, 0, 10, 10));
        due("left slightly", 'l', () -> turnBetween(0, 0, 50, 0, 99, 1));
        due("right", 'r', () -> turnBetween(0, 10, 10, 10, 10, 0));
        due("straight on", 's', () -> turnBetween(0, 0, 10, 10, 30, 30));
        due("back", 'b', () -> turnBetween(0, 0, 10, 10, 5, 5));
        due("no way before", 's', () -> turnBetween(10, 10, 10, 10, 5, 5));
        due("no way behind", 's', () -> turnBetween(10, 10, 5, 5, 5, 5));
        TrailGuide g = row(4);
        due("turn without tour", STATE, () -> g.turn(9));
        g.startTour(0, 3);
        due("turn first", ELEMENT, () -> g.turn(0));
        due("turn 2", 's', () -> g.turn(2));
        due("turn last", ELEMENT, () -> g.turn(3));
        due("turn -1", INDEX, () -> g.turn(-1));
        due("turn 4", INDEX, () -> g.turn(4));
    }

    private static void hiker() {
        TrailGuide g = diamond();
        due("hikerX without tour", STATE, () -> g.hikerX());
        due("hikerY without tour", STATE, () -> g.hikerY());
        g.startTour(2, 1);
        due("hikerX at start", 10, () -> g.hikerX());
        due("hikerY at start", 30, () -> g.hikerY());
        g.update(7, 40);
        due("hikerX", 7, () -> g.hikerX());
        due("hikerY", 40, () -> g.hikerY());
    }

    private static String driftAt(int x, int y, int... leg) {
        TrailGuide g = new TrailGuide();
        g.addWaypoint(leg[0], leg[1], 1);
        g.addWaypoint(leg[2], leg[3], 1);
        g.addTrail(0, 1, 1);
        g.startTour(0, 1);
        g.update(x, y);
        return Check.answerOf(() -> g.drift());
    }

    private static void drift() {
        TrailGuide g = diamond();
        due("drift without tour", STATE, () -> g.drift());
        g.startTour(0, 3);
        due("drift at start", 0, () -> g.drift());
        due("drift beside the leg", 7, () -> driftAt(20, 17, 10, 10, 30, 10));
        due("drift before the leg", 5, () -> driftAt(7, 14, 10, 10, 30, 10));
        due("drift behind the leg", 5, () -> driftAt(33, 14, 10, 10, 30, 10));
        due("drift rounded down before the leg", 5, () -> driftAt(5, 13, 10, 10, 30, 10));
        due("drift from a slanted leg", 7, () -> driftAt(10, 0, 0, 0, 10, 10));
        due("drift from a steep leg", 12, () -> driftAt(20, 30, 0, 0, 40, 30));
        due("drift on the other side of a steep leg", 13, () -> driftAt(35, 10, 0, 0, 40, 30));
        due("drift behind a steep leg", 5, () -> driftAt(23, 34, 10, 10, 20, 30));
        due("drift from a leg without length", 5, () -> driftAt(13, 14, 10, 10, 10, 10));
        due("greatest drift", 140, () -> driftAt(99, 99, 0, 0, 0, 0));

        TrailGuide h = diamond();
        h.startTour(0, 3);
        h.update(28, 10);
        due("drift from the new leg", 2, () -> h.drift());
    }

    private static void forecast() {
        TrailGuide g = diamond();
        due("forecast without tour", STATE, () -> g.forecast(0, 0));
        due("forecast without tour out of range", ARGUMENT, () -> g.forecast(0, 100));
        g.startTour(0, 3);
        due("forecast x -1", ARGUMENT, () -> g.forecast(-1, 0));
        due("forecast x 100", ARGUMENT, () -> g.forecast(100, 0));
        due("forecast y -1", ARGUMENT, () -> g.forecast(0, -1));
        due("forecast target", 't', () -> g.forecast(30, 13));
        due("forecast alarm", 'a', () -> g.forecast(20, 16));
        due("forecast quiet", 'q', () -> g.forecast(20, 15));
        due("forecast beside the target", 'q', () -> g.forecast(30, 14));
        due("forecast changes no battery", 1000, () -> g.battery());
        due("forecast changes no position", 10, () -> g.hikerX());
        g.update(20, 16);
        due("forecast alarm goes on", 'a', () -> g.forecast(20, 17));
        due("forecast alarm ends", 'q', () -> g.forecast(20, 14));
        due("forecast target in alarm", 't', () -> g.forecast(28, 12));
    }

    private static void updatesLeft() {
        TrailGuide g = row(2);
        due("updatesLeft normal", 500, () -> g.updatesLeft());
        due("updatesLeftByCounting normal", 500, () -> g.updatesLeftByCounting());
        g.setMode(0);
        due("updatesLeft eco", 1000, () -> g.updatesLeft());
        due("updatesLeftByCounting eco", 1000, () -> g.updatesLeftByCounting());
        g.startTour(0, 1);
        g.update(3, 0);
        g.setMode(2);
        due("updatesLeft rounded up", 250, () -> g.updatesLeft());
        due("updatesLeftByCounting rounded up", 250, () -> g.updatesLeftByCounting());
        g.setMode(0);
        g.update(3, 0);
        g.update(3, 0);
        g.update(3, 0);
        g.setMode(2);
        due("updatesLeft even", 249, () -> g.updatesLeft());
        due("updatesLeftByCounting even", 249, () -> g.updatesLeftByCounting());
    }

    private static void statistics() {
        TrailGuide g = diamond();
        due("alarmRate without updates", ARITHMETIC, () -> g.alarmRate());
        due("meanTrailLength", 12.5, () -> g.meanTrailLength());
        g.removeTrail(0, 1);
        due("meanTrailLength of three", 30.0 / 3.0, () -> g.meanTrailLength());
        g.addTrail(0, 3, 1);
        g.removeTrail(1, 3);
        due("meanTrailLength not whole", 26.0 / 3.0, () -> g.meanTrailLength());
        due("meanTrailLength without trails", ARITHMETIC, () -> new TrailGuide().meanTrailLength());
        g.startTour(0, 3);
        g.update(10, 40);
        due("alarmRate 1", 1.0f, () -> g.alarmRate());
        g.update(10, 40);
        g.update(10, 40);
        due("alarmRate a third", 1.0f / 3.0f, () -> g.alarmRate());
        due("updates", 3, () -> g.updates());
        due("alarms", 1, () -> g.alarms());
        due("reached none", 0, () -> g.reached());
        g.stopTour();
        due("updates after the tour", 3, () -> g.updates());
        g.startTour(0, 3);
        g.update(30, 30);
        due("updates in all tours", 4, () -> g.updates());
        due("reached in all tours", 1, () -> g.reached());
        due("alarmRate a quarter", 0.25f, () -> g.alarmRate());
    }

    private static void isConsistent() {
        TrailGuide g = diamond();
        due("isConsistent map", true, () -> g.isConsistent());
        g.startTour(0, 3);
        g.update(0, 99);
        due("isConsistent alarm", true, () -> g.isConsistent());
        g.stopTour();
        due("isConsistent stopped", true, () -> g.isConsistent());
        TrailGuide r = row(12);
        due("isConsistent row", true, () -> r.isConsistent());
    }

    private static void writeRoute() {
        TrailGuide g = diamond();
        due("writeRoute without tour", 0, () -> g.writeRoute());
        g.startTour(0, 3);
        due("writeRoute", 7, () -> g.writeRoute());
        due("the route's line", "0 *1l 3", () -> lineOf(g, 7));
        g.update(30, 10);
        due("writeRoute target moved", 7, () -> g.writeRoute());
        due("the route's line with the last target", "0 1l *3", () -> lineOf(g, 7));
        g.stopTour();
        due("the line stays", '0', () -> g.charAt(0));
        due("writeRoute after the tour", 0, () -> g.writeRoute());
        due("the line is replaced", INDEX, () -> g.charAt(0));
        TrailGuide r = row(12);
        r.startTour(11, 0);
        String line = "11 *10s 9s 8s 7s 6s 5s 4s 3s 2s 1s 0";
        due("writeRoute long", line.length(), () -> r.writeRoute());
        due("the long route's line", line, () -> lineOf(r, line.length()));
        due("behind the long line", INDEX, () -> r.charAt(line.length()));
    }

    private static void writeTrails() {
        TrailGuide g = diamond();
        due("writeTrails 3", 9, () -> g.writeTrails(3));
        due("the trails' line", "-1=5-2=15", () -> lineOf(g, 9));
        due("writeTrails 1", 9, () -> g.writeTrails(1));
        due("the trails' line with waypoint 0", "-0=20-3=5", () -> lineOf(g, 9));
        due("writeTrails -1", INDEX, () -> g.writeTrails(-1));
        due("writeTrails 5", INDEX, () -> g.writeTrails(5));
        due("the line stays", '-', () -> g.charAt(0));
        due("writeTrails none", 0, () -> g.writeTrails(4));
        due("the line is empty", INDEX, () -> g.charAt(0));
        TrailGuide f = new TrailGuide();
        for (int i = 0; i < 12; i++) {
            f.addWaypoint(i, i, 1);
        }
        for (int i = 11; i > 0; i--) {
            f.addTrail(i, 0, 89 + i - 1);
        }
        String line = "-1=89-2=90-3=91-4=92-5=93-6=94-7=95-8=96-9=97-10=98-11=99";
        due("writeTrails many", line.length(), () -> f.writeTrails(0));
        due("the many trails' line", line, () -> lineOf(f, line.length()));
    }

    private static void charAt() {
        TrailGuide g = diamond();
        due("charAt empty line", INDEX, () -> g.charAt(0));
        g.writeTrails(0);
        due("charAt 0", '-', () -> g.charAt(0));
        due("charAt last", '0', () -> g.charAt(9));
        due("charAt length", INDEX, () -> g.charAt(10));
        due("charAt -1", INDEX, () -> g.charAt(-1));
        due("charAt extreme", INDEX, () -> g.charAt(Integer.MIN_VALUE));
        g.undo();
        due("undo leaves the line", '-', () -> g.charAt(0));
        g.save();
        g.writeRoute();
        g.restore();
        due("restore leaves the line", INDEX, () -> g.charAt(0));
    }

    private static void type() {
        TrailGuide g = new TrailGuide();
        for (int i = 1; i <= 60; i++) {
            int length = i;
            due("type " + length, length, () -> g.type((char) (length * 1000)));
        }
        due("type 61", STATE, () -> g.type('a'));
        due("run of a full buffer", ARGUMENT, () -> g.run());
        due("type after run", 1, () -> g.type('\0'));
        g.addWaypoint(1, 1, 1);
        g.undo();
        due("undo leaves the buffer", 2, () -> g.type('\uffff'));
    }

    private static void runCommands() {
        TrailGuide g = new TrailGuide();
        due("run points", "3", () -> typeAndRun(g, "point 0,0,1;point 040,000,2;point 40,40,3"));
        due("waypoints by run", 3, () -> g.waypoints());
        due("waypointX by run", 40, () -> g.waypointX(1));
        due("waypointY by run", 0, () -> g.waypointY(1));
        due("radius by run", 3, () -> g.radius(2));
        due("run trails", "4", () -> typeAndRun(g, "trail 0-1=40;trail 1-02=99;trail 0-2=1;cut 0-2"));
        due("trails by run", 2, () -> g.trails());
        due("run settings", "3", () -> typeAndRun(g, "mode f;limit 30;tour 0>2"));
        due("mode by run", 2, () -> g.mode());
        due("tolerance by run", 30, () -> g.tolerance());
        due("tour by run", 3, () -> g.routeLength());
        due("run mode n", "1", () -> typeAndRun(g, "mode n"));
        due("mode n by run", 1, () -> g.mode());
        due("run mode e", "1", () -> typeAndRun(g, "mode e"));
        due("mode e by run", 0, () -> g.mode());
        due("run moves", "2", () -> typeAndRun(g, "move 10,3;move 40,2"));
        due("updates by run", 2, () -> g.updates());
        due("target by run", 2, () -> g.target());
        due("battery by run", 1000 - 2 - 3, () -> g.battery());
        due("run charge", "2", () -> typeAndRun(g, "charge 3;stop"));
        due("battery charged by run", 998, () -> g.battery());
        due("tour stopped by run", false, () -> g.isTouring());
        due("no text was wrong", ELEMENT, () -> g.errorPosition());
        due("no command failed", ELEMENT, () -> g.failedCommand());
        g.startTour(0, 2);
        due("run of a program with 60 characters", "9", () -> typeAndRun(g, "mode n;".repeat(8) + "stop"));
        due("the last command of 60 characters", false, () -> g.isTouring());
        g.startTour(0, 2);
        due("run of twelve commands", UNSUPPORTED, () -> typeAndRun(g, "stop;".repeat(11) + "stop"));
        due("the second of twelve commands fails", 1, () -> g.failedCommand());
    }

    private static void error(String text, int position) {
        TrailGuide g = new TrailGuide();
        due("run of '" + text + "'", ARGUMENT, () -> typeAndRun(g, text));
        due("errorPosition of '" + text + "'", position, () -> g.errorPosition());
        due("type after '" + text + "'", 1, () -> g.type('x'));
        due("failedCommand after '" + text + "'", ELEMENT, () -> g.failedCommand());
        due("undo after '" + text + "'", STATE, () -> g.undo());
    }

    private static void runSyntaxErrors() {
        String[] programs = {"point 1,22,3", "trail 0-1=999", "cut 1-2", "tour 1>2", "mode e", "limit 5",
            "charge 12", "move 1,2", "stop"};
        for (String program : programs) {
            int ends = 0;
            for (int length = 0; length < program.length(); length++) {
                String start = program.substring(0, length);
                TrailGuide g = new TrailGuide();
                String answer = typeAndRun(g, start);
                // A number may be complete before its last digit, so some starts are programs.
                if (answer.equals(ARGUMENT)) {
                    due("errorPosition of start '" + start + "'", length, () -> g.errorPosition());
                } else {
                    ends++;
                }
            }
            int shortest = program.endsWith("999") ? 2 : program.endsWith("12") ? 1 : 0;
            int programsAmongStarts = ends;
            due("programs among the starts of " + program, shortest, () -> programsAmongStarts);
            error(program + ";", program.length() + 1);
            error(program + " ", program.length());
            error(program + ";;", program.length() + 1);
            error(" " + program, 0);
            error(program + ";x", program.length() + 1);
        }
        error("", 0);
        error("Stop", 0);
        error("stopp", 4);
        error("step", 2);
        error("trip", 2);
        error("tail", 1);
        error("cart", 1);
        error("chart", 4);
        error("moxe", 2);
        error("mode  e", 5);
        error("mode x", 5);
        error("mode en", 6);
        error("point 1,2,33", 11);
        error("point 1,,3", 8);
        error("point a", 6);
        error("point 1234", 9);
        error("trail 1=2", 7);
        error("cut 1-2-3", 7);
        error("tour 1-2", 6);
        error("move 1,2345", 10);
        error("limit -1", 6);
        error("limit \u0663", 6);
        error("limit 1\u0000", 7);
        error("charge 1000", 10);
        error("stop;stop;stop;stop;stop;stop;stop;stop;stop;stop;stop;stop;", 60);
        error("stop;stop;stop;stop;stop;stop;stop;stop;stop;stop;stop;point", 60);
        error("stop;stop;stop;stop;stop;stop;stop;stop;stop;stop;stop;poinx", 59);

        TrailGuide g = new TrailGuide();
        typeAndRun(g, "stop;");
        typeAndRun(g, "mode f");
        due("errorPosition stays after a program", 5, () -> g.errorPosition());
        typeAndRun(g, "x");
        due("errorPosition of the latest text", 0, () -> g.errorPosition());
        due("run of an empty buffer", ARGUMENT, () -> g.run());
        g.addWaypoint(1, 1, 1);
        typeAndRun(g, "li?");
        g.undo();
        due("undo leaves the errorPosition", 2, () -> g.errorPosition());
    }

    private static void runFailures() {
        TrailGuide g = diamond();
        due("run with a failing command", UNSUPPORTED,
                () -> typeAndRun(g, "point 1,1,1;cut 0-1;mode f;limit 9;tour 0>3;limit 31"));
        due("failedCommand", 5, () -> g.failedCommand());
        due("no waypoint was added", 5, () -> g.waypoints());
        due("no trail was removed", 4, () -> g.trails());
        due("no mode was set", 1, () -> g.mode());
        due("no tolerance was set", 5, () -> g.tolerance());
        due("no tour was started", false, () -> g.isTouring());
        due("type after a failure", 1, () -> g.type('s'));
        due("rest of the text", UNSUPPORTED, () -> typeAndRun(g, "top"));
        due("failedCommand of the latest", 0, () -> g.failedCommand());
        due("no errorPosition", ELEMENT, () -> g.errorPosition());
        due("run that fails by number", UNSUPPORTED, () -> typeAndRun(g, "stop;stop"));
        due("run that starts twice", UNSUPPORTED, () -> typeAndRun(g, "tour 0>3;tour 0>3"));
        due("failedCommand 1", 1, () -> g.failedCommand());
        due("undo after failures goes to the call before", 7, () -> g.undo());
        due("undo leaves the failedCommand", 1, () -> g.failedCommand());

        String[] failing = {"point 100,1,1", "point 1,100,1", "point 1,1,0", "trail 0-5=1", "trail 1-1=1",
            "trail 0-1=1", "trail 0-4=0", "trail 0-4=100", "cut 0-5", "cut 0-3", "tour 0>0", "tour 0>4", "tour 0>5",
            "limit 0", "limit 31", "charge 0", "charge 000", "move 1,1", "stop"};
        for (String text : failing) {
            TrailGuide h = diamond();
            due("run of " + text, UNSUPPORTED, () -> typeAndRun(h, "mode e;" + text));
            due("failedCommand of " + text, 1, () -> h.failedCommand());
            due("mode after " + text, 1, () -> h.mode());
        }
        TrailGuide h = diamond();
        h.startTour(0, 3);
        due("run of move out of range", UNSUPPORTED, () -> typeAndRun(h, "move 11,10;move 100,1"));
        due("no update happened", 0, () -> h.updates());
        due("the hiker did not move", 10, () -> h.hikerX());
        due("the battery was not used", 1000, () -> h.battery());
    }

    private static void undo() {
        TrailGuide g = new TrailGuide();
        for (int i = 0; i < 10; i++) {
            g.addWaypoint(i, i, 1);
        }
        for (int left = 7; left >= 0; left--) {
            int due = left;
            due("undo with " + due + " left", due, () -> g.undo());
        }
        due("undo at most 8", STATE, () -> g.undo());
        due("waypoints undone", 2, () -> g.waypoints());
        g.addWaypoint(50, 50, 5);
        due("waypoint after undo", 50, () -> g.waypointX(2));
        due("undo the new change", 0, () -> g.undo());
        g.setMode(1);
        due("a change that changes nothing can be undone", 0, () -> g.undo());
        due("refused changes are no changes", ARGUMENT, () -> g.setMode(7));
        due("undo after a refused change", STATE, () -> g.undo());
        g.save();
        g.waypoints();
        g.writeRoute();
        g.type('s');
        due("questions, save and type are no changes", STATE, () -> g.undo());

        TrailGuide h = new TrailGuide();
        for (int i = 0; i < 9; i++) {
            h.addWaypoint(i, i, 1);
        }
        h.undo();
        h.undo();
        h.setMode(2);
        due("undo after undo and change", 6, () -> h.undo());
        due("undo goes on to older changes", 5, () -> h.undo());
        due("waypoints after that", 6, () -> h.waypoints());
    }

    private static void undoOfEachChange() {
        TrailGuide g = diamond();
        g.addWaypoint(5, 5, 5);
        g.undo();
        due("undo addWaypoint", 5, () -> g.waypoints());
        g.addTrail(0, 3, 9);
        g.undo();
        due("undo addTrail", false, () -> g.hasTrail(0, 3));
        due("undo addTrail's count", 4, () -> g.trails());
        g.removeTrail(0, 1);
        g.undo();
        due("undo removeTrail", 20, () -> g.trailLength(1, 0));
        g.startTour(0, 3);
        g.undo();
        due("undo startTour", false, () -> g.isTouring());
        g.startTour(0, 3);
        g.update(20, 18);
        g.stopTour();
        g.undo();
        due("undo stopTour", 1, () -> g.target());
        due("undo stopTour's alarm", true, () -> g.isAlarm());
        due("undo stopTour's hiker", 18, () -> g.hikerY());
        g.undo();
        due("undo update's alarm", false, () -> g.isAlarm());
        due("undo update's battery", 1000, () -> g.battery());
        due("undo update's hiker", 10, () -> g.hikerY());
        due("undo update's updates", 0, () -> g.updates());
        due("undo update's alarms", 0, () -> g.alarms());
        g.update(30, 10);
        g.update(30, 30);
        due("the tour has ended", false, () -> g.isTouring());
        g.undo();
        due("undo the end of the tour", 3, () -> g.target());
        due("undo reached", 1, () -> g.reached());
        g.setTolerance(9);
        g.undo();
        due("undo setTolerance", 5, () -> g.tolerance());
        g.setMode(2);
        g.undo();
        due("undo setMode", 1, () -> g.mode());
        int before = g.battery();
        g.charge(2);
        g.undo();
        due("undo charge", before, () -> g.battery());
        typeAndRun(g, "stop;mode f;limit 8;cut 0-1");
        due("the program ran", 3, () -> g.trails());
        g.undo();
        due("undo run's trails", 4, () -> g.trails());
        due("undo run's tour", 3, () -> g.target());
        due("undo run's mode", 1, () -> g.mode());
        due("undo run's tolerance", 5, () -> g.tolerance());
    }

    private static void saveAndRestore() {
        TrailGuide g = diamond();
        due("restore without save", STATE, () -> g.restore());
        due("save", 5, () -> g.save());
        g.addWaypoint(1, 1, 1);
        g.setMode(2);
        g.startTour(0, 3);
        g.update(20, 18);
        due("restore", 5, () -> g.restore());
        due("restored mode", 1, () -> g.mode());
        due("restored tour", false, () -> g.isTouring());
        due("restored alarm", false, () -> g.isAlarm());
        due("restored updates", 0, () -> g.updates());
        due("restored battery", 1000, () -> g.battery());
        due("no undo after restore", STATE, () -> g.undo());
        g.addWaypoint(1, 1, 1);
        due("one undo after restore", 0, () -> g.undo());
        g.removeTrail(0, 1);
        due("restore again", 5, () -> g.restore());
        due("restored trails", 4, () -> g.trails());
        g.startTour(0, 3);
        g.update(20, 18);
        due("save in a tour", 5, () -> g.save());
        due("undo after save", 1, () -> g.undo());
        due("undo leaves the saved state", 5, () -> g.restore());
        due("restored alarm in a tour", true, () -> g.isAlarm());
        due("restored hiker", 18, () -> g.hikerY());
        due("restored target", 1, () -> g.target());
        due("new guide saves 0", 0, () -> new TrailGuide().save());
    }
}
