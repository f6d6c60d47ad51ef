import java.util.ArrayList;
import java.util.List;
import java.util.NoSuchElementException;

/**
 * The document's words put down as plainly as can be, to compare answers with: it keeps
 * nothing but what was set up and booked, and looks at one minute after the other.
 */
final class PlainSalon {
    private static final int[][] USUAL = {
        {0, 10, 1, 30}, {2, 40, -1, 35, 0, 10, 1, 30}, {3, 15, -1, 20, 0, 10}, {1, 20}};

    private final List<int[]> staff = new ArrayList<>();
    /** A service is its steps; a step is a skill and minutes. */
    private final List<List<int[]>> services = new ArrayList<>();
    private final List<Boolean> frozen = new ArrayList<>();
    /** A visit: service, member of staff, chair, start. */
    private final List<int[]> visits = new ArrayList<>();
    private final List<int[]> requests = new ArrayList<>();

    String answer(String name, int... a) {
        try {
            return Integer.toString(call(name, a));
        } catch (IndexOutOfBoundsException | IllegalArgumentException | IllegalStateException
                | NoSuchElementException e) {
            return Calls.simpleName(e);
        }
    }

    private int call(String name, int[] a) {
        switch (name) {
            case "hire": return hire(a[0], a[1], a[2]);
            case "addService": return addService(a[0], a[1]);
            case "addStep": return addStep(a[0], a[1], a[2]);
            case "addUsual": return addUsual(a[0]);
            case "book": service(a[0]); minute(a[1]); return book(a[0], -1, a[1]);
            case "bookWith": service(a[0]); member(a[1]); minute(a[2]); return book(a[0], a[1], a[2]);
            case "move": return move(a[0], a[1]);
            case "drop": held(a[0]); free(a[0]); return serve();
            case "request": return request(a[0], a[1]);
            case "requests": return requests.size();
            case "requestAt": index(a[0], requests.size()); return requests.get(a[0])[0];
            case "lengthOf": service(a[0]); return minutes(a[0], true);
            case "workOf": service(a[0]); return minutes(a[0], false);
            case "skillsOf": service(a[0]); return skills(a[0]);
            case "visits": return visits.size();
            case "serviceOf": visit(a[0]); return visits.get(a[0])[0];
            case "staffOf": visit(a[0]); return visits.get(a[0])[1];
            case "chairOf": visit(a[0]); return visits.get(a[0])[2];
            case "startOf": visit(a[0]); return visits.get(a[0])[3];
            case "loadOf": member(a[0]); return load(a[0]);
            case "staffAt": member(a[0]); minute(a[1]); return staffAt(a[0], a[1]);
            case "chairAt": index(a[0], 4); minute(a[1]); return chairAt(a[0], a[1]);
            case "earliest": case "earliestByScan":
                service(a[0]); minute(a[1]); return place(a[0], -1, a[1])[2];
            case "staffFor": service(a[0]); minute(a[1]); return place(a[0], -1, a[1])[0];
            case "inRest": held(a[0]); service(a[1]); return inRest(a[0], a[1]);
            case "fill": return fill(a[0]);
            case "peak": return peak();
            default: throw new Error("no such call: " + name);
        }
    }

    private static void index(int i, int size) {
        if (i < 0 || i >= size) {
            throw new IndexOutOfBoundsException();
        }
    }

    private static void minute(int i) {
        index(i, 600);
    }

    private void service(int i) {
        index(i, services.size());
    }

    private void member(int i) {
        index(i, staff.size());
    }

    private void visit(int i) {
        index(i, visits.size());
    }

    private void held(int i) {
        visit(i);
        index(visits.get(i)[3], 600);
    }

    private static void argument(int value, int least, int most) {
        if (value < least || value > most) {
            throw new IllegalArgumentException();
        }
    }

    private static void state(boolean good) {
        if (!good) {
            throw new IllegalStateException();
        }
    }

    private int hire(int skills, int from, int to) {
        argument(skills, 1, 15);
        argument(from, 0, 599);
        argument(to, from + 1, 600);
        state(staff.size() < 5);
        staff.add(new int[] {skills, from, to});
        return staff.size() - 1;
    }

    private int addSteps(int... steps) {
        state(services.size() < 8);
        List<int[]> service = new ArrayList<>();
        for (int i = 0; i < steps.length; i += 2) {
            service.add(new int[] {steps[i], steps[i + 1]});
        }
        services.add(service);
        frozen.add(false);
        return services.size() - 1;
    }

    private int addService(int skill, int minutes) {
        argument(skill, 0, 3);
        argument(minutes, 1, 200);
        return addSteps(skill, minutes);
    }

    private int addUsual(int usual) {
        argument(usual, 0, 3);
        return addSteps(USUAL[usual]);
    }

    private int addStep(int service, int skill, int minutes) {
        service(service);
        argument(skill, -1, 3);
        argument(minutes, 1, 200);
        state(services.get(service).size() < 5 && !frozen.get(service));
        services.get(service).add(new int[] {skill, minutes});
        return services.get(service).size();
    }

    private int minutes(int service, boolean withRests) {
        int sum = 0;
        for (int[] step : services.get(service)) {
            sum += withRests || step[0] >= 0 ? step[1] : 0;
        }
        return sum;
    }

    private int skills(int service) {
        int set = 0;
        for (int[] step : services.get(service)) {
            set |= step[0] >= 0 ? 1 << step[0] : 0;
        }
        return set;
    }

    /** The skill that a service asks for in a minute from its start on; -1 in a rest. */
    private int skillIn(int service, int offset) {
        int end = 0;
        for (int[] step : services.get(service)) {
            end += step[1];
            if (offset < end) {
                return step[0];
            }
        }
        throw new Error("behind the service");
    }

    private int load(int member) {
        int sum = 0;
        for (int[] visit : visits) {
            sum += visit[1] == member ? minutes(visit[0], false) : 0;
        }
        return sum;
    }

    private boolean lies(int[] visit, int minute) {
        return visit[3] >= 0 && visit[3] <= minute && minute < visit[3] + minutes(visit[0], true);
    }

    private int chairAt(int chair, int minute) {
        for (int i = 0; i < visits.size(); i++) {
            if (visits.get(i)[2] == chair && lies(visits.get(i), minute)) {
                return i;
            }
        }
        return -1;
    }

    private int staffAt(int member, int minute) {
        for (int i = 0; i < visits.size(); i++) {
            int[] visit = visits.get(i);
            if (visit[1] == member && lies(visit, minute)
                    && skillIn(visit[0], minute - visit[3]) >= 0) {
                return i;
            }
        }
        return -1;
    }

    private boolean staffCan(int member, int service, int start) {
        int[] m = staff.get(member);
        int length = minutes(service, true);
        if ((skills(service) & ~m[0]) != 0 || start < m[1] || start + length > m[2]) {
            return false;
        }
        for (int i = 0; i < length; i++) {
            if (skillIn(service, i) >= 0 && staffAt(member, start + i) >= 0) {
                return false;
            }
        }
        return true;
    }

    private int chairFor(int service, int start) {
        int length = minutes(service, true);
        for (int chair = 0; chair < 4; chair++) {
            boolean free = true;
            for (int i = 0; i < length && free; i++) {
                free = chairAt(chair, start + i) < 0;
            }
            if (free) {
                return chair;
            }
        }
        return -1;
    }

    /** Member of staff, chair and start; only is a member of staff, or -1 for all. */
    private int[] place(int service, int only, int from) {
        for (int start = from; start + minutes(service, true) <= 600; start++) {
            int best = -1;
            for (int i = 0; i < staff.size(); i++) {
                if ((only < 0 || only == i) && (best < 0 || load(i) < load(best))
                        && staffCan(i, service, start)) {
                    best = i;
                }
            }
            int chair = best < 0 ? -1 : chairFor(service, start);
            if (chair >= 0) {
                return new int[] {best, chair, start};
            }
        }
        return new int[] {-1, -1, -1};
    }

    private int book(int service, int only, int from) {
        state(visits.size() < 30);
        int[] place = place(service, only, from);
        if (place[2] < 0) {
            throw new NoSuchElementException();
        }
        frozen.set(service, true);
        visits.add(new int[] {service, place[0], place[1], place[2]});
        return visits.size() - 1;
    }

    private void free(int visit) {
        visits.set(visit, new int[] {visits.get(visit)[0], -1, -1, -1});
    }

    private int move(int visit, int from) {
        held(visit);
        minute(from);
        int[] old = visits.get(visit);
        free(visit);
        int[] place = place(old[0], -1, from);
        if (place[2] < 0) {
            visits.set(visit, old);
            throw new NoSuchElementException();
        }
        visits.set(visit, new int[] {old[0], place[0], place[1], place[2]});
        serve();
        return visits.get(visit)[3];
    }

    private int request(int service, int latest) {
        service(service);
        minute(latest);
        state(requests.size() < 6);
        frozen.set(service, true);
        requests.add(new int[] {service, latest});
        return requests.size();
    }

    private int serve() {
        List<int[]> looked = new ArrayList<>(requests);
        int count = 0;
        for (int[] request : looked) {
            int start = place(request[0], -1, 0)[2];
            if (visits.size() < 30 && start >= 0 && start <= request[1]) {
                book(request[0], -1, 0);
                requests.remove(request);
                count++;
            }
        }
        return count;
    }

    private int inRest(int visit, int service) {
        int[] v = visits.get(visit);
        int begin = v[3];
        for (int[] step : services.get(v[0])) {
            int end = begin + step[1];
            for (int start = begin; start + minutes(service, true) <= end; start++) {
                if (step[0] < 0 && staffCan(v[1], service, start) && chairFor(service, start) >= 0) {
                    return start;
                }
            }
            begin = end;
        }
        return -1;
    }

    private int fill(int minutes) {
        argument(minutes, 0, 600);
        int best = 0;
        int bestSum = 0;
        for (int set = 0; set < 1 << services.size(); set++) {
            int sum = 0;
            for (int i = 0; i < services.size(); i++) {
                sum += (set & 1 << i) != 0 ? minutes(i, true) : 0;
            }
            if (sum <= minutes && sum > bestSum) {
                best = set;
                bestSum = sum;
            }
        }
        return best;
    }

    private int peak() {
        int best = 0;
        int most = 0;
        for (int minute = 0; minute < 600; minute++) {
            int taken = 0;
            for (int chair = 0; chair < 4; chair++) {
                taken += chairAt(chair, minute) >= 0 ? 1 : 0;
            }
            if (taken > most) {
                best = minute;
                most = taken;
            }
        }
        return best;
    }
}
