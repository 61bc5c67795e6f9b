/** The software on board of a satellite: commands come up as frames of bytes, reports wait to be taken down. */
public final class FlightDesk {
    public static final int REFUSED = -1000;

    private static final int LAST_CLOCK = 60000;
    private static final int LAST_TIME = 65535;
    private static final int PARAMETERS = 8;
    private static final int WATCHES = 4;
    private static final int EVENTS = 4;
    private static final int LISTS = 2;

    private static final int PING = 1;
    private static final int SET = 2;
    private static final int AT = 3;
    private static final int RUN = 4;
    private static final int SHIFT = 5;
    private static final int WATCH = 6;
    private static final int UNWATCH = 7;
    private static final int ACTION = 8;
    private static final int DROP = 9;
    private static final int HOUSE = 10;
    private static final int MODE = 11;

    /** How many arguments each service wants, for AT and ACTION before the command inside. */
    private static final int[] ARGUMENTS_WANTED = {0, 0, 2, 2, 1, 1, 6, 1, 1, 1, 3, 1};

    private static final int NO_FAULT = 0;
    private static final int UNKNOWN_SERVICE = 1;
    private static final int WRONG_ARGUMENT_NUMBER = 2;
    private static final int OUT_OF_RANGE = 3;
    private static final int NOT_WHEN_SAFE = 4;
    private static final int PLAN_FULL = 5;
    private static final int WRONG_TIME = 6;

    private static final int DONE_REPORT = 1;
    private static final int REFUSED_REPORT = 2;
    private static final int PONG_REPORT = 3;
    private static final int EVENT_REPORT = 4;
    private static final int HOUSE_REPORT = 5;

    private static final int PLAN_NUMBER = 256;
    private static final int ACTION_NUMBER = 257;

    private static final int ANSWER_PART = 0;
    private static final int ANSWER_DONE = 1;
    private static final int ANSWER_NOT_DONE = 2;
    private static final int ANSWER_DROPPED_BY_LENGTH = 3;
    private static final int ANSWER_DROPPED_BY_CHECK = 4;
    private static final int ANSWER_SKIPPED = 5;

    private final Receiver receiver;
    private final Command incoming;
    private final Plan plan;
    private final Store store;
    private final int[] parameters;
    private final Watch[] watches;
    private final Command[] actions;
    private final HouseList[] lists;
    private int clock;
    private boolean safe;
    private int commandsDone;

    public FlightDesk() {
        receiver = new Receiver();
        incoming = new Command();
        plan = new Plan();
        store = new Store();
        parameters = new int[PARAMETERS];
        watches = new Watch[WATCHES];
        for (int m = 0; m < WATCHES; m++) {
            watches[m] = new Watch();
        }
        actions = new Command[EVENTS];
        for (int e = 0; e < EVENTS; e++) {
            actions[e] = new Command();
        }
        lists = new HouseList[LISTS];
        for (int s = 0; s < LISTS; s++) {
            lists[s] = new HouseList();
        }
    }

    public int uplink(int value) {
        if (value < 0 || value > 255) {
            return REFUSED;
        }
        int answer = receiver.accept(value);
        if (answer != Receiver.FRAME_TAKEN) {
            return answer;
        }
        return obeyFrame() ? ANSWER_DONE : ANSWER_NOT_DONE;
    }

    public int tick() {
        if (clock >= LAST_CLOCK) {
            return REFUSED;
        }
        clock++;
        if (plan.runs) {
            carryOutDue();
        }
        for (int m = 0; m < WATCHES; m++) {
            if (watches[m].on) {
                look(watches[m]);
            }
        }
        for (int s = 0; s < LISTS; s++) {
            if (lists[s].isDue(clock)) {
                store.add(HOUSE_REPORT, clock, s, sumOf(lists[s].mask));
            }
        }
        return clock;
    }

    public int report(int what) {
        if (store.isEmpty()) {
            return REFUSED;
        }
        switch (what) {
            case 0: return store.oldestKind();
            case 1: return store.oldestClock();
            case 2: return store.oldestFirst();
            case 3: return store.oldestSecond();
            default: return REFUSED;
        }
    }

    public int take() {
        if (store.isEmpty()) {
            return REFUSED;
        }
        store.removeOldest();
        return store.size;
    }

    public int parameter(int p) {
        return isParameter(p) ? parameters[p] : REFUSED;
    }

    public int sense(int p, int value) {
        if (!isParameter(p) || value < -128 || value > 127) {
            return REFUSED;
        }
        int before = parameters[p];
        parameters[p] = value;
        return before;
    }

    public int planned(int k) {
        return plan.has(k) ? plan.times[k] : REFUSED;
    }

    public int plannedService(int k) {
        return plan.has(k) ? plan.commands[k].service() : REFUSED;
    }

    public int watch(int m) {
        if (!isWatch(m)) {
            return REFUSED;
        }
        return watches[m].on ? watches[m].strikes : -1;
    }

    public int action(int e) {
        return isEvent(e) ? actions[e].service() : REFUSED;
    }

    public int count(int what) {
        switch (what) {
            case 0: return clock;
            case 1: return safe ? 1 : 0;
            case 2: return plan.runs ? 1 : 0;
            case 3: return plan.size;
            case 4: return store.size;
            case 5: return store.lost;
            case 6: return receiver.taken;
            case 7: return receiver.dropped;
            case 8: return receiver.skipped;
            case 9: return commandsDone;
            default: return REFUSED;
        }
    }

    private static boolean isParameter(int p) {
        return p >= 0 && p < PARAMETERS;
    }

    private static boolean isWatch(int m) {
        return m >= 0 && m < WATCHES;
    }

    private static boolean isEvent(int e) {
        return e >= 0 && e < EVENTS;
    }

    private static boolean isList(int s) {
        return s >= 0 && s < LISTS;
    }

    private static int signed(int x) {
        return x < 128 ? x : x - 256;
    }

    private static boolean holdsCommand(int service) {
        return service == AT || service == ACTION;
    }

    /** Where the command inside an AT or an ACTION begins, counted from the outer one's service. */
    private static int insideOf(int service) {
        return 1 + (service == AT ? ARGUMENTS_WANTED[AT] : ARGUMENTS_WANTED[ACTION]);
    }

    private static boolean mayStandInside(int outer, int inner) {
        return inner != AT && (outer == AT || inner != ACTION);
    }

    /** Carries out the command of the frame that has just been taken; answers whether it was done. */
    private boolean obeyFrame() {
        incoming.load(receiver.content, 1, receiver.length);
        int number = receiver.content[0];
        int code = brokenCode(incoming);
        if (code != NO_FAULT) {
            store.add(REFUSED_REPORT, clock, number, code);
            return false;
        }
        return carryOut(incoming, number);
    }

    private static int brokenCode(Command command) {
        int start = 0;
        // Three levels: an AT, an ACTION in it, and a command in that; nothing sound goes deeper.
        for (int level = 0; level < 3; level++) {
            int code = brokenCodeWithoutInside(command, start);
            if (code != NO_FAULT || !holdsCommand(command.part(start))) {
                return code;
            }
            start += insideOf(command.part(start));
        }
        return OUT_OF_RANGE;
    }

    /** The code of the command that begins at the part start; of one inside it only its service is looked at. */
    private static int brokenCodeWithoutInside(Command command, int start) {
        int service = command.part(start);
        if (service < PING || service > MODE) {
            return UNKNOWN_SERVICE;
        }
        int arguments = command.size - start - 1;
        int wanted = ARGUMENTS_WANTED[service];
        boolean rightNumber = holdsCommand(service) ? arguments > wanted : arguments == wanted;
        if (!rightNumber) {
            return WRONG_ARGUMENT_NUMBER;
        }
        if (!argumentsInRange(command, start)) {
            return OUT_OF_RANGE;
        }
        if (holdsCommand(service) && !mayStandInside(service, command.part(start + insideOf(service)))) {
            return OUT_OF_RANGE;
        }
        return NO_FAULT;
    }

    private static boolean argumentsInRange(Command command, int start) {
        int first = command.part(start + 1);
        switch (command.part(start)) {
            case SET: return isParameter(first);
            case RUN: return first < 3;
            case WATCH: return watchInRange(command, start);
            case UNWATCH: return isWatch(first);
            case ACTION: return isEvent(first);
            case DROP: return isEvent(first);
            case HOUSE: return isList(first);
            case MODE: return first < 2;
            default: return true;
        }
    }

    private static boolean watchInRange(Command command, int start) {
        int low = signed(command.part(start + 3));
        int high = signed(command.part(start + 4));
        int needed = command.part(start + 5);
        return isWatch(command.part(start + 1)) && isParameter(command.part(start + 2)) && high >= low
                && needed >= 1 && needed <= 3 && isEvent(command.part(start + 6));
    }

    /** Carries out a command that is not broken; answers whether it was done. */
    private boolean carryOut(Command command, int number) {
        // Read first, because a DROP may empty the very action that it stands in.
        int service = command.service();
        int code = refusalCode(command);
        if (code != NO_FAULT) {
            store.add(REFUSED_REPORT, clock, number, code);
            return false;
        }
        if (service == PING) {
            store.add(PONG_REPORT, clock, number, parametersNotZero());
        }
        perform(command);
        commandsDone++;
        store.add(DONE_REPORT, clock, number, service);
        return true;
    }

    private int refusalCode(Command command) {
        int service = command.service();
        if (safe && !isAllowedWhenSafe(service)) {
            return NOT_WHEN_SAFE;
        }
        if (service == AT && plan.isFull()) {
            return PLAN_FULL;
        }
        if (service == AT && timeOf(command) <= clock) {
            return WRONG_TIME;
        }
        if (service == SHIFT && !plan.canShift(signed(command.part(1)), clock)) {
            return WRONG_TIME;
        }
        return NO_FAULT;
    }

    private static boolean isAllowedWhenSafe(int service) {
        return service == PING || service == SET || service == UNWATCH || service == MODE;
    }

    private static int timeOf(Command at) {
        return at.part(1) * 256 + at.part(2);
    }

    private void perform(Command command) {
        switch (command.service()) {
            case SET: setParameter(command.part(1), signed(command.part(2))); break;
            case AT: plan.put(timeOf(command), command); break;
            case RUN: steerPlan(command.part(1)); break;
            case SHIFT: plan.shift(signed(command.part(1))); break;
            case WATCH: startWatch(command); break;
            case UNWATCH: stopWatch(command.part(1)); break;
            case ACTION: setAction(command); break;
            case DROP: dropAction(command.part(1)); break;
            case HOUSE: setList(command.part(1), command.part(2), command.part(3)); break;
            case MODE: setMode(command.part(1)); break;
            default: break;
        }
    }

    private void setParameter(int p, int value) {
        if (isParameter(p)) {
            parameters[p] = value;
        }
    }

    private void steerPlan(int k) {
        if (k == 2) {
            plan.clear();
        } else {
            plan.runs = k == 1;
        }
    }

    private void startWatch(Command command) {
        int m = command.part(1);
        if (isWatch(m)) {
            watches[m].start(command);
        }
    }

    private void stopWatch(int m) {
        if (isWatch(m)) {
            watches[m].on = false;
        }
    }

    private void setAction(Command command) {
        int e = command.part(1);
        if (isEvent(e)) {
            actions[e].load(command.parts, insideOf(ACTION), command.size);
        }
    }

    private void dropAction(int e) {
        if (isEvent(e)) {
            actions[e].clear();
        }
    }

    private void setList(int s, int every, int mask) {
        if (isList(s)) {
            lists[s].every = every;
            lists[s].mask = mask;
        }
    }

    private void setMode(int k) {
        safe = k == 1;
        if (safe) {
            plan.runs = false;
        }
    }

    private void carryOutDue() {
        int due = plan.takeOutDue(clock);
        for (int i = 0; i < due; i++) {
            carryOut(plan.dueCommands[i], PLAN_NUMBER);
        }
    }

    private void look(Watch watch) {
        int value = parameter(watch.watched);
        if (!watch.strikesOut(value)) {
            return;
        }
        int e = watch.event;
        store.add(EVENT_REPORT, clock, e, value);
        if (isEvent(e) && !actions[e].isEmpty()) {
            carryOut(actions[e], ACTION_NUMBER);
        }
    }

    private int parametersNotZero() {
        int found = 0;
        for (int p = 0; p < PARAMETERS; p++) {
            if (parameters[p] != 0) {
                found++;
            }
        }
        return found;
    }

    private int sumOf(int mask) {
        int sum = 0;
        for (int p = 0; p < PARAMETERS; p++) {
            if ((mask >> p & 1) == 1) {
                sum += parameters[p];
            }
        }
        return sum;
    }

    /** Finds frames in the bytes that come up. */
    private static final class Receiver {
        private static final int FRAME_TAKEN = -1;

        private static final int START = 235;
        private static final int SHORTEST = 2;
        private static final int LONGEST = 12;

        private static final int SKIPPING = 0;
        private static final int AWAITING_LENGTH = 1;
        private static final int IN_CONTENT = 2;
        private static final int AWAITING_CHECK = 3;

        private final int[] content = new int[LONGEST];
        private int stage = SKIPPING;
        private int length;
        private int filled;
        private int check;
        private int taken;
        private int dropped;
        private int skipped;

        /** Answers FRAME_TAKEN when this byte ends a good frame, else what uplink answers. */
        private int accept(int value) {
            switch (stage) {
                case AWAITING_LENGTH: return acceptLength(value);
                case IN_CONTENT: return acceptContent(value);
                case AWAITING_CHECK: return acceptCheck(value);
                default: return acceptBetweenFrames(value);
            }
        }

        private int acceptBetweenFrames(int value) {
            if (value != START) {
                skipped++;
                return ANSWER_SKIPPED;
            }
            stage = AWAITING_LENGTH;
            return ANSWER_PART;
        }

        private int acceptLength(int value) {
            if (value < SHORTEST || value > LONGEST) {
                stage = SKIPPING;
                dropped++;
                return ANSWER_DROPPED_BY_LENGTH;
            }
            stage = IN_CONTENT;
            length = value;
            filled = 0;
            check = 255;
            return ANSWER_PART;
        }

        private int acceptContent(int value) {
            if (filled < content.length) {
                content[filled] = value;
            }
            filled++;
            check = (check * 2 % 256 + check / 128) ^ value;
            if (filled >= length) {
                stage = AWAITING_CHECK;
            }
            return ANSWER_PART;
        }

        private int acceptCheck(int value) {
            stage = SKIPPING;
            if (value != check) {
                dropped++;
                return ANSWER_DROPPED_BY_CHECK;
            }
            taken++;
            return FRAME_TAKEN;
        }
    }

    /** A command: its service and, behind it, its arguments; without any part it is no command. */
    private static final class Command {
        private static final int MOST_PARTS = 11;

        private final int[] parts = new int[MOST_PARTS];
        private int size;

        private void load(int[] source, int from, int end) {
            size = 0;
            for (int i = from; i >= 0 && i < end && i < source.length && size < MOST_PARTS; i++) {
                parts[size] = source[i];
                size++;
            }
        }

        private void clear() {
            size = 0;
        }

        private boolean isEmpty() {
            return size == 0;
        }

        private int part(int index) {
            return index >= 0 && index < size ? parts[index] : 0;
        }

        private int service() {
            return part(0);
        }
    }

    /** The commands that wait for their time, by rising times, equal ones in the order they were put in. */
    private static final class Plan {
        private static final int ROOM = 6;

        private final int[] times = new int[ROOM];
        private final Command[] commands = new Command[ROOM];
        private final Command[] dueCommands = new Command[ROOM];
        private int size;
        private boolean runs = true;

        private Plan() {
            for (int i = 0; i < ROOM; i++) {
                commands[i] = new Command();
                dueCommands[i] = new Command();
            }
        }

        private boolean has(int k) {
            return k >= 0 && k < size;
        }

        private boolean isFull() {
            return size >= ROOM;
        }

        private void clear() {
            size = 0;
        }

        private void put(int time, Command at) {
            if (isFull()) {
                return;
            }
            Command unused = commands[size];
            int place = size;
            while (place > 0 && times[place - 1] > time) {
                times[place] = times[place - 1];
                commands[place] = commands[place - 1];
                place--;
            }
            times[place] = time;
            commands[place] = unused;
            unused.load(at.parts, insideOf(AT), at.size);
            size++;
        }

        private boolean canShift(int d, int clock) {
            for (int i = 0; i < size; i++) {
                int time = times[i] + d;
                if (time <= clock || time > LAST_TIME) {
                    return false;
                }
            }
            return true;
        }

        private void shift(int d) {
            for (int i = 0; i < size; i++) {
                times[i] += d;
            }
        }

        /** Moves the entries that are due to the front of dueCommands; answers how many they are. */
        private int takeOutDue(int clock) {
            int due = 0;
            while (due < size && times[due] <= clock) {
                Command unused = dueCommands[due];
                dueCommands[due] = commands[due];
                commands[due] = unused;
                due++;
            }
            // Swapped, not overwritten, so that every place keeps a command object of its own.
            for (int i = due; i < size; i++) {
                Command unused = commands[i - due];
                commands[i - due] = commands[i];
                commands[i] = unused;
                times[i - due] = times[i];
            }
            size -= due;
            return due;
        }
    }

    /** The reports that wait to be taken down, in a ring. */
    private static final class Store {
        private static final int ROOM = 10;

        private final int[] kinds = new int[ROOM];
        private final int[] clocks = new int[ROOM];
        private final int[] firsts = new int[ROOM];
        private final int[] seconds = new int[ROOM];
        private int oldest;
        private int size;
        private int lost;

        private boolean isEmpty() {
            return size == 0;
        }

        private void add(int kind, int clock, int first, int second) {
            if (size >= ROOM) {
                removeOldest();
                lost++;
            }
            int place = (oldest + size) % ROOM;
            kinds[place] = kind;
            clocks[place] = clock;
            firsts[place] = first;
            seconds[place] = second;
            size++;
        }

        private void removeOldest() {
            if (size > 0) {
                oldest = (oldest + 1) % ROOM;
                size--;
            }
        }

        private int oldestKind() {
            return kinds[oldest];
        }

        private int oldestClock() {
            return clocks[oldest];
        }

        private int oldestFirst() {
            return firsts[oldest];
        }

        private int oldestSecond() {
            return seconds[oldest];
        }
    }

    /** Counts how often in a row a parameter is out of its bounds. */
    private static final class Watch {
        private boolean on;
        private int watched;
        private int low;
        private int high;
        private int needed;
        private int event;
        private int strikes;

        private void start(Command command) {
            on = true;
            watched = command.part(2);
            low = signed(command.part(3));
            high = signed(command.part(4));
            needed = command.part(5);
            event = command.part(6);
            strikes = 0;
        }

        /** Counts the value; answers whether the count has just become the one that is needed. */
        private boolean strikesOut(int value) {
            if (value >= low && value <= high) {
                strikes = 0;
                return false;
            }
            if (strikes >= needed) {
                return false;
            }
            strikes++;
            return strikes == needed;
        }
    }

    /** A list of parameters whose sum is reported again and again. */
    private static final class HouseList {
        private int every;
        private int mask;

        private boolean isDue(int clock) {
            return every != 0 && clock % every == 0;
        }
    }
}
