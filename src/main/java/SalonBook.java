import java.util.ArrayList;
import java.util.NoSuchElementException;

/** The book of a salon for one day. */
public final class SalonBook {
    public static final int NONE = -1;
    public static final int WASH = 0, CUT = 1, COLOUR = 2, CARE = 3;

    private static final int MINUTES = 600;
    private static final int CHAIRS = 4;
    private static final int SKILLS = 4;
    private static final int ALL_SKILLS = 15;
    private static final int USUAL_SERVICES = 4;
    private static final int MOST_STAFF = 5;
    private static final int MOST_SERVICES = 8;
    private static final int MOST_STEPS = 5;
    private static final int MOST_STEP_MINUTES = 200;
    private static final int MOST_VISITS = 30;
    private static final int MOST_REQUESTS = 6;
    /** Every member of staff, where a set of them is asked for; bit k is member k. */
    private static final int EVERYBODY = 31;

    private final ArrayList<Member> members;
    private final ArrayList<Service> menu;
    private final ArrayList<Visit> booked;
    private final ArrayList<Request> waiting;
    private final Diary[] chairs;
    /** Filled anew by each search for a start; it tells nothing between calls. */
    private final MinuteSet candidates;

    public SalonBook() {
        members = new ArrayList<>();
        menu = new ArrayList<>();
        booked = new ArrayList<>();
        waiting = new ArrayList<>();
        chairs = new Diary[CHAIRS];
        for (int i = 0; i < CHAIRS; i++) {
            chairs[i] = new Diary();
        }
        candidates = new MinuteSet();
    }

    // ---- staff and services

    public int hire(int skills, int from, int to)
            throws IllegalArgumentException, IllegalStateException {
        if (skills < 1 || skills > ALL_SKILLS) {
            throw new IllegalArgumentException("skills out of range");
        }
        if (!isMinute(from) || to <= from || to > MINUTES) {
            throw new IllegalArgumentException("shift out of range");
        }
        if (members.size() >= MOST_STAFF) {
            throw new IllegalStateException("no more staff");
        }
        members.add(new Member(skills, from, to));
        return members.size() - 1;
    }

    public int addService(int skill, int minutes)
            throws IllegalArgumentException, IllegalStateException {
        if (!isSkill(skill)) {
            throw new IllegalArgumentException("skill out of range");
        }
        requireStepMinutes(minutes);
        requireRoomForService();
        Service service = newService();
        service.append(skill, minutes);
        return service.number;
    }

    public int addStep(int service, int skill, int minutes)
            throws IndexOutOfBoundsException, IllegalArgumentException, IllegalStateException {
        requireService(service);
        if (skill != NONE && !isSkill(skill)) {
            throw new IllegalArgumentException("skill out of range");
        }
        requireStepMinutes(minutes);
        Service changed = menu.get(service);
        if (changed.steps >= MOST_STEPS) {
            throw new IllegalStateException("no more steps");
        }
        if (changed.fixed) {
            throw new IllegalStateException("service was booked or requested");
        }
        changed.append(skill, minutes);
        return changed.steps;
    }

    public int addUsual(int usual) throws IllegalArgumentException, IllegalStateException {
        if (usual < 0 || usual >= USUAL_SERVICES) {
            throw new IllegalArgumentException("usual service out of range");
        }
        requireRoomForService();
        Service service = newService();
        appendUsualSteps(service, usual);
        return service.number;
    }

    // ---- visits and requests

    public int book(int service, int from)
            throws IndexOutOfBoundsException, IllegalStateException, NoSuchElementException {
        requireService(service);
        requireMinute(from);
        requireRoomForVisit();
        return bookFirst(menu.get(service), EVERYBODY, from);
    }

    public int bookWith(int service, int staff, int from)
            throws IndexOutOfBoundsException, IllegalStateException, NoSuchElementException {
        requireService(service);
        requireMember(staff);
        requireMinute(from);
        requireRoomForVisit();
        return bookFirst(menu.get(service), 1 << staff, from);
    }

    public int move(int visit, int from)
            throws IndexOutOfBoundsException, NoSuchElementException {
        requireUndropped(visit);
        requireMinute(from);
        Visit moved = booked.get(visit);
        int oldStaff = moved.staff;
        int oldChair = moved.chair;
        int oldStart = moved.start;
        takeOut(moved);
        int start = firstStart(moved.service, EVERYBODY, from);
        if (start == NONE) {
            put(moved, oldStaff, oldChair, oldStart);
            throw new NoSuchElementException("no place for the visit");
        }
        putAt(moved, EVERYBODY, start);
        serveWaiting();
        return start;
    }

    public int drop(int visit) throws IndexOutOfBoundsException {
        requireUndropped(visit);
        takeOut(booked.get(visit));
        return serveWaiting();
    }

    public int request(int service, int latest)
            throws IndexOutOfBoundsException, IllegalStateException {
        requireService(service);
        requireMinute(latest);
        if (waiting.size() >= MOST_REQUESTS) {
            throw new IllegalStateException("no more requests");
        }
        Service wanted = menu.get(service);
        wanted.fixed = true;
        waiting.add(new Request(wanted, latest));
        return waiting.size();
    }

    public int requests() {
        return waiting.size();
    }

    public int requestAt(int place) throws IndexOutOfBoundsException {
        if (place < 0 || place >= waiting.size()) {
            throw new IndexOutOfBoundsException("no such request");
        }
        return waiting.get(place).service.number;
    }

    // ---- services and visits as they are

    public int lengthOf(int service) throws IndexOutOfBoundsException {
        requireService(service);
        return menu.get(service).length;
    }

    public int workOf(int service) throws IndexOutOfBoundsException {
        requireService(service);
        return menu.get(service).work;
    }

    public int skillsOf(int service) throws IndexOutOfBoundsException {
        requireService(service);
        return menu.get(service).skills;
    }

    public int visits() {
        return booked.size();
    }

    public int startOf(int visit) throws IndexOutOfBoundsException {
        requireVisit(visit);
        return booked.get(visit).start;
    }

    public int staffOf(int visit) throws IndexOutOfBoundsException {
        requireVisit(visit);
        return booked.get(visit).staff;
    }

    public int chairOf(int visit) throws IndexOutOfBoundsException {
        requireVisit(visit);
        return booked.get(visit).chair;
    }

    public int serviceOf(int visit) throws IndexOutOfBoundsException {
        requireVisit(visit);
        return booked.get(visit).service.number;
    }

    public int loadOf(int staff) throws IndexOutOfBoundsException {
        requireMember(staff);
        return workBookedWith(staff);
    }

    public int staffAt(int staff, int minute) throws IndexOutOfBoundsException {
        requireMember(staff);
        requireMinute(minute);
        return members.get(staff).diary.at(minute);
    }

    public int chairAt(int chair, int minute) throws IndexOutOfBoundsException {
        if (!isChair(chair)) {
            throw new IndexOutOfBoundsException("no such chair");
        }
        requireMinute(minute);
        return chairs[chair].at(minute);
    }

    // ---- places

    public int earliest(int service, int from) throws IndexOutOfBoundsException {
        requireService(service);
        requireMinute(from);
        return firstStart(menu.get(service), EVERYBODY, from);
    }

    public int earliestByScan(int service, int from) throws IndexOutOfBoundsException {
        requireService(service);
        requireMinute(from);
        return firstStartByScan(menu.get(service), EVERYBODY, from, MINUTES);
    }

    public int staffFor(int service, int from) throws IndexOutOfBoundsException {
        requireService(service);
        requireMinute(from);
        Service wanted = menu.get(service);
        int start = firstStart(wanted, EVERYBODY, from);
        return start == NONE ? NONE : memberFor(wanted, EVERYBODY, start);
    }

    public int inRest(int visit, int service) throws IndexOutOfBoundsException {
        requireUndropped(visit);
        requireService(service);
        Visit outer = booked.get(visit);
        Service inner = menu.get(service);
        // The steps follow one another, so the first start found is the least.
        for (int step = 0; step < outer.service.steps; step++) {
            if (outer.service.isRest(step)) {
                int from = outer.start + outer.service.stepFrom(step);
                int to = outer.start + outer.service.stepTo(step);
                int start = firstStartByScan(inner, 1 << outer.staff, from, to);
                if (start != NONE) {
                    return start;
                }
            }
        }
        return NONE;
    }

    public int fill(int minutes) throws IllegalArgumentException {
        if (minutes < 0 || minutes > MINUTES) {
            throw new IllegalArgumentException("minutes out of range");
        }
        int best = 0;
        int bestLength = 0;
        int sets = 1 << menu.size();
        for (int set = 1; set < sets; set++) {
            int length = lengthOfAll(set);
            if (length <= minutes && length > bestLength) {
                best = set;
                bestLength = length;
            }
        }
        return best;
    }

    public int peak() {
        int best = 0;
        int most = 0;
        for (int minute = 0; minute < MINUTES; minute++) {
            int taken = chairsTakenAt(minute);
            if (taken > most) {
                best = minute;
                most = taken;
            }
        }
        return best;
    }

    // ---- ranges

    private static boolean isMinute(int minute) {
        return minute >= 0 && minute < MINUTES;
    }

    private static boolean isSkill(int skill) {
        return skill >= 0 && skill < SKILLS;
    }

    private static boolean isChair(int chair) {
        return chair >= 0 && chair < CHAIRS;
    }

    private boolean isMember(int staff) {
        return staff >= 0 && staff < members.size();
    }

    private static void requireMinute(int minute) {
        if (!isMinute(minute)) {
            throw new IndexOutOfBoundsException("no such minute");
        }
    }

    private static void requireStepMinutes(int minutes) {
        if (minutes < 1 || minutes > MOST_STEP_MINUTES) {
            throw new IllegalArgumentException("minutes out of range");
        }
    }

    private void requireService(int service) {
        if (service < 0 || service >= menu.size()) {
            throw new IndexOutOfBoundsException("no such service");
        }
    }

    private void requireMember(int staff) {
        if (!isMember(staff)) {
            throw new IndexOutOfBoundsException("no such member of staff");
        }
    }

    private void requireVisit(int visit) {
        if (visit < 0 || visit >= booked.size()) {
            throw new IndexOutOfBoundsException("no such visit");
        }
    }

    private void requireUndropped(int visit) {
        requireVisit(visit);
        if (booked.get(visit).isDropped()) {
            throw new IndexOutOfBoundsException("visit was dropped");
        }
    }

    private void requireRoomForService() {
        if (menu.size() >= MOST_SERVICES) {
            throw new IllegalStateException("no more services");
        }
    }

    private void requireRoomForVisit() {
        if (booked.size() >= MOST_VISITS) {
            throw new IllegalStateException("no more visits");
        }
    }

    // ---- services

    private Service newService() {
        Service service = new Service(menu.size());
        menu.add(service);
        return service;
    }

    private static void appendUsualSteps(Service service, int usual) {
        switch (usual) {
            case 0:
                service.append(WASH, 10);
                service.append(CUT, 30);
                break;
            case 1:
                service.append(COLOUR, 40);
                service.append(NONE, 35);
                service.append(WASH, 10);
                service.append(CUT, 30);
                break;
            case 2:
                service.append(CARE, 15);
                service.append(NONE, 20);
                service.append(WASH, 10);
                break;
            default:
                service.append(CUT, 20);
                break;
        }
    }

    private int lengthOfAll(int set) {
        int sum = 0;
        for (int i = 0; i < menu.size(); i++) {
            if ((set >> i & 1) == 1) {
                sum += menu.get(i).length;
            }
        }
        return sum;
    }

    // ---- booking

    private int bookFirst(Service service, int who, int from) {
        int start = firstStart(service, who, from);
        if (start == NONE) {
            throw new NoSuchElementException("no such place");
        }
        return bookAt(service, who, start);
    }

    /** Asks for a start at which there is room, and for fewer than the most visits. */
    private int bookAt(Service service, int who, int start) {
        Visit visit = new Visit(booked.size(), service);
        booked.add(visit);
        service.fixed = true;
        putAt(visit, who, start);
        return visit.number;
    }

    private void putAt(Visit visit, int who, int start) {
        int staff = memberFor(visit.service, who, start);
        int chair = chairFor(visit.service, start);
        put(visit, staff, chair, start);
    }

    private void put(Visit visit, int staff, int chair, int start) {
        visit.staff = staff;
        visit.chair = chair;
        visit.start = start;
        write(visit, visit.number);
    }

    private void takeOut(Visit visit) {
        write(visit, NONE);
        visit.staff = NONE;
        visit.chair = NONE;
        visit.start = NONE;
    }

    /** Writes a mark on all minutes that the visit takes; a dropped visit takes none. */
    private void write(Visit visit, int mark) {
        if (!isMember(visit.staff) || !isChair(visit.chair)) {
            return;
        }
        Service service = visit.service;
        chairs[visit.chair].write(visit.start, visit.start + service.length, mark);
        Diary diary = members.get(visit.staff).diary;
        for (int step = 0; step < service.steps; step++) {
            if (!service.isRest(step)) {
                int from = visit.start + service.stepFrom(step);
                int to = visit.start + service.stepTo(step);
                diary.write(from, to, mark);
            }
        }
    }

    private int serveWaiting() {
        int met = 0;
        int place = 0;
        int looks = waiting.size();
        for (int look = 0; look < looks && place < waiting.size(); look++) {
            Request request = waiting.get(place);
            boolean full = booked.size() >= MOST_VISITS;
            int start = full ? NONE : firstStart(request.service, EVERYBODY, 0);
            if (start == NONE || start > request.latest) {
                place++;
            } else {
                bookAt(request.service, EVERYBODY, start);
                waiting.remove(place);
                met++;
            }
        }
        return met;
    }

    // ---- searching

    /**
     * The least start from a minute on at which one of these members and a chair can take
     * the service. One minute before such a start something stood in the way, unless that
     * is before the minute asked for; so only starts behind something need a look.
     */
    private int firstStart(Service service, int who, int from) {
        gatherCandidates(service, from);
        for (int start = from; start + service.length <= MINUTES; start++) {
            if (candidates.has(start) && hasRoom(service, who, start)) {
                return start;
            }
        }
        return NONE;
    }

    private void gatherCandidates(Service service, int from) {
        candidates.clear();
        candidates.add(from);
        for (int i = 0; i < members.size(); i++) {
            candidates.add(members.get(i).from);
        }
        for (int i = 0; i < booked.size(); i++) {
            Visit visit = booked.get(i);
            if (!visit.isDropped()) {
                candidates.add(visit.start + visit.service.length);
                addStartsBehindSteps(visit, service);
            }
        }
    }

    /** The starts that let a step of the service begin when a step of the visit ends. */
    private void addStartsBehindSteps(Visit visit, Service service) {
        for (int i = 0; i < visit.service.steps; i++) {
            int end = visit.start + visit.service.stepTo(i);
            for (int k = 0; k < service.steps; k++) {
                if (!visit.service.isRest(i) && !service.isRest(k)) {
                    candidates.add(end - service.stepFrom(k));
                }
            }
        }
    }

    /** The least start at which the service lies wholly in a span and there is room. */
    private int firstStartByScan(Service service, int who, int from, int to) {
        for (int start = from; start + service.length <= to; start++) {
            if (hasRoom(service, who, start)) {
                return start;
            }
        }
        return NONE;
    }

    private boolean hasRoom(Service service, int who, int start) {
        return chairFor(service, start) != NONE && memberFor(service, who, start) != NONE;
    }

    /** The least loaded of these members that can take the service at a start, or NONE. */
    private int memberFor(Service service, int who, int start) {
        int best = NONE;
        int leastLoad = 0;
        for (int i = 0; i < members.size(); i++) {
            if ((who >> i & 1) == 1 && members.get(i).canTake(service, start)) {
                int load = workBookedWith(i);
                if (best == NONE || load < leastLoad) {
                    best = i;
                    leastLoad = load;
                }
            }
        }
        return best;
    }

    private int chairFor(Service service, int start) {
        for (int i = 0; i < CHAIRS; i++) {
            if (chairs[i].isFree(start, start + service.length)) {
                return i;
            }
        }
        return NONE;
    }

    private int workBookedWith(int staff) {
        int sum = 0;
        for (int i = 0; i < booked.size(); i++) {
            Visit visit = booked.get(i);
            if (visit.staff == staff) {
                sum += visit.service.work;
            }
        }
        return sum;
    }

    private int chairsTakenAt(int minute) {
        int taken = 0;
        for (int i = 0; i < CHAIRS; i++) {
            if (chairs[i].at(minute) != NONE) {
                taken++;
            }
        }
        return taken;
    }

    /** A service: a row of steps, each a span of minutes told from the start of a visit on. */
    private static final class Service {
        final int number;
        private final int[] stepSkills = new int[MOST_STEPS];
        private final int[] stepStarts = new int[MOST_STEPS];
        private final int[] stepEnds = new int[MOST_STEPS];
        int steps;
        int length;
        int work;
        int skills;
        /** It was booked or requested once, so that its steps stay as they are. */
        boolean fixed;

        Service(int number) {
            this.number = number;
        }

        void append(int skill, int minutes) {
            if (steps < 0 || steps >= MOST_STEPS) {
                return;
            }
            stepSkills[steps] = skill;
            stepStarts[steps] = length;
            stepEnds[steps] = length + minutes;
            steps++;
            length += minutes;
            if (skill != NONE) {
                work += minutes;
                skills |= 1 << skill;
            }
        }

        boolean isRest(int step) {
            return step >= 0 && step < MOST_STEPS && stepSkills[step] == NONE;
        }

        int stepFrom(int step) {
            return step >= 0 && step < MOST_STEPS ? stepStarts[step] : 0;
        }

        int stepTo(int step) {
            return step >= 0 && step < MOST_STEPS ? stepEnds[step] : 0;
        }
    }

    private static final class Member {
        final int skills;
        final int from;
        final int to;
        final Diary diary = new Diary();

        Member(int skills, int from, int to) {
            this.skills = skills;
            this.from = from;
            this.to = to;
        }

        boolean canTake(Service service, int start) {
            if ((skills & service.skills) != service.skills) {
                return false;
            }
            if (start < from || start + service.length > to) {
                return false;
            }
            for (int step = 0; step < service.steps; step++) {
                int begin = start + service.stepFrom(step);
                int end = start + service.stepTo(step);
                if (!service.isRest(step) && !diary.isFree(begin, end)) {
                    return false;
                }
            }
            return true;
        }
    }

    /** A visit; staff, chair and start are NONE when it was dropped. */
    private static final class Visit {
        final int number;
        final Service service;
        int staff = NONE;
        int chair = NONE;
        int start = NONE;

        Visit(int number, Service service) {
            this.number = number;
            this.service = service;
        }

        boolean isDropped() {
            return start == NONE;
        }
    }

    private static final class Request {
        final Service service;
        final int latest;

        Request(Service service, int latest) {
            this.service = service;
            this.latest = latest;
        }
    }

    /** The day of one chair or one member of staff: the visit that takes each minute. */
    private static final class Diary {
        private final int[] visitAt = new int[MINUTES];
        /** How many minutes before each one are taken, so that a span is asked in one look. */
        private final int[] takenBefore = new int[MINUTES + 1];

        Diary() {
            for (int i = 0; i < MINUTES; i++) {
                visitAt[i] = NONE;
            }
        }

        int at(int minute) {
            return isMinute(minute) ? visitAt[minute] : NONE;
        }

        boolean isFree(int from, int to) {
            if (from < 0 || to < from || to > MINUTES) {
                return false;
            }
            return takenBefore[from] == takenBefore[to];
        }

        void write(int from, int to, int mark) {
            if (from < 0 || to > MINUTES) {
                return;
            }
            for (int i = from; i < to; i++) {
                visitAt[i] = mark;
            }
            for (int i = from; i < MINUTES; i++) {
                takenBefore[i + 1] = takenBefore[i] + (visitAt[i] == NONE ? 0 : 1);
            }
        }
    }

    /** A set of minutes of the day. */
    private static final class MinuteSet {
        private final boolean[] held = new boolean[MINUTES];

        void clear() {
            for (int i = 0; i < MINUTES; i++) {
                held[i] = false;
            }
        }

        void add(int minute) {
            if (isMinute(minute)) {
                held[minute] = true;
            }
        }

        boolean has(int minute) {
            return isMinute(minute) && held[minute];
        }
    }
}
