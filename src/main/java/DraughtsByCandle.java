/** Draughts in a house of rooms, doors and holes, looked at by a candle. */
public final class DraughtsByCandle {
    private static final int NOBODY = -1;
    private static final int OTHER = -2;
    private static final int STATE = -3;
    private static final int BELOW = -4;
    private static final int NO_ROOM = -6;
    private static final int NONE = -9;
    private static final int FAR = 1000000000;

    private static final int MOST_ROOMS = 6;
    private static final int MOST_OPENINGS = 10;
    private static final int MOST_WEATHERS = 4;
    private static final int MOST_LETTERS = 80;
    private static final int MOST_WARM = 40;
    private static final int MOST_WIND = 20;
    private static final int MOST_SIDE = 3;
    private static final int MOST_FAN = 50;
    private static final int MOST_SIZE = 9;
    private static final int MOST_COIN = 99;
    private static final int MOST_DAYS = 30;
    private static final int MOST_STOPPED = 3;

    private static final String KINDS = "pltwcfs";
    private static final int PLAIN = 0;
    private static final int LOW = 1;
    private static final int HIGH = 2;
    private static final int WINDWARD = 3;
    private static final int CHIMNEY = 4;
    private static final int FANS = 5;
    private static final int STOVES = 6;
    private static final int DOOR = 7;

    private final Told told;
    private final Told image;
    private boolean imageTaken;
    private final Draught draught;
    private final Reader reader;
    private final Seed seed;
    private final Air otherAir;
    private final int[] refusals;

    public DraughtsByCandle() {
        told = new Told();
        image = new Told();
        imageTaken = false;
        draught = new Draught(told);
        reader = new Reader(told);
        seed = new Seed();
        otherAir = new Air();
        refusals = new int[7];
    }

    // ---- what is told

    public int letter(int c) {
        if (c < 0) {
            return refuse(BELOW);
        }
        if (c > 255 || told.letters.isFull()) {
            return refuse(NO_ROOM);
        }
        told.letters.add(c);
        return told.letters.many;
    }

    public int house() {
        int fault = reader.faultOfLetters();
        int answer = fault < 0 ? fault : reader.takeStatements();
        told.letters.clear();
        return answer;
    }

    public int hole(int hole, int what) {
        if (!told.openings.has(hole)) {
            return refuse(NOBODY);
        }
        switch (what) {
            case 0:
                return Rows.at(told.openings.room, hole);
            case 1:
                return Rows.at(told.openings.other, hole);
            case 2:
                return Rows.at(told.openings.kind, hole);
            case 3:
                return Rows.at(told.openings.size, hole);
            case 4:
                return Rows.at(told.openings.height, hole);
            case 5:
                return Rows.at(told.openings.side, hole);
            case 6:
                return Rows.at(told.openings.price, hole);
            default:
                return refuse(OTHER);
        }
    }

    public int weather(int weather, int what) {
        if (weather < 0 || weather >= told.weathers.many) {
            return refuse(NOBODY);
        }
        switch (what) {
            case 0:
                return Rows.at(told.weathers.warm, weather);
            case 1:
                return Rows.at(told.weathers.wind, weather);
            case 2:
                return Rows.at(told.weathers.side, weather);
            default:
                return refuse(OTHER);
        }
    }

    public int set(int what, int v) {
        if (what < 0 || what > 2) {
            return refuse(OTHER);
        }
        if (v < 0) {
            return refuse(BELOW);
        }
        int most = what == 0 ? MOST_WARM : what == 1 ? MOST_WIND : MOST_SIDE;
        if (v > most) {
            return refuse(NO_ROOM);
        }
        int before = nowOf(what);
        if (what == 0) {
            told.now.warm = v;
        } else if (what == 1) {
            told.now.wind = v;
        } else {
            told.now.side = v;
        }
        return before;
    }

    public int fan(int v) {
        if (v < -MOST_FAN) {
            return refuse(BELOW);
        }
        if (v > MOST_FAN) {
            return refuse(NO_ROOM);
        }
        told.now.fan = v;
        return v + MOST_FAN;
    }

    public int now(int what) {
        if (what < 0 || what > 3) {
            return refuseFar(OTHER);
        }
        return nowOf(what);
    }

    public int size(int hole, int v) {
        if (!told.openings.has(hole)) {
            return refuse(NOBODY);
        }
        if (v < 0) {
            return refuse(BELOW);
        }
        if (v > MOST_SIZE) {
            return refuse(NO_ROOM);
        }
        int before = Rows.at(told.openings.size, hole);
        Rows.put(told.openings.size, hole, v);
        return before;
    }

    // ---- what pushes and flows now

    public int outside(int hole) {
        if (!told.openings.has(hole)) {
            return refuseFar(NOBODY);
        }
        if (told.openings.isDoor(hole)) {
            return refuseFar(STATE);
        }
        return told.openings.outsidePush(hole, told.now);
    }

    public int push(int room) {
        if (room < 0 || room >= told.rooms) {
            return refuseFar(NOBODY);
        }
        settleNow(0);
        return Rows.at(draught.pushes, room);
    }

    public int flow(int hole) {
        if (!told.openings.has(hole)) {
            return refuseFar(NOBODY);
        }
        settleNow(0);
        return draught.flowThrough(hole);
    }

    public int lean(int hole) {
        if (!told.openings.has(hole)) {
            return refuse(NOBODY);
        }
        settleNow(0);
        return leanOf(hole);
    }

    public int coal() {
        return coalWithout(0);
    }

    public int smokes() {
        settleNow(0);
        return draught.smoking() ? 1 : 0;
    }

    // ---- what would be

    public int stopped(int holes) {
        if (holes < 0 || holes >= 1 << told.openings.many) {
            return refuse(NOBODY);
        }
        return coalWithout(holes);
    }

    public int best(int coin, int what) {
        if (what < 0 || what > 1) {
            return refuse(OTHER);
        }
        if (coin < 0) {
            return refuse(BELOW);
        }
        if (coin > MOST_COIN) {
            return refuse(NO_ROOM);
        }
        int bestSet = NONE;
        int bestCoal = NONE;
        int sets = 1 << told.openings.many;
        for (int set = 0; set < sets; set++) {
            if (told.openings.canBeStopped(set, coin)) {
                int coal = coalWithout(set);
                if (!draught.smoking() && (bestSet == NONE || coal < bestCoal)) {
                    bestSet = set;
                    bestCoal = coal;
                }
            }
        }
        return what == 0 ? bestSet : bestCoal;
    }

    public int pairs(int what) {
        if (what < 0 || what > 1) {
            return refuse(OTHER);
        }
        int first = NONE;
        int found = 0;
        int coal = coalWithout(0);
        int idle = idleAlone(coal);
        for (int a = 0; a < told.openings.many; a++) {
            for (int b = a + 1; b < told.openings.many; b++) {
                int both = (1 << a) | (1 << b);
                if ((idle & both) == both && coalWithout(both) < coal) {
                    first = found == 0 ? 10 * a + b : first;
                    found++;
                }
            }
        }
        return what == 0 ? found : first;
    }

    public int shut(int door, int hole) {
        if (!told.openings.has(door) || !told.openings.has(hole)) {
            return refuseFar(NOBODY);
        }
        if (!told.openings.isDoor(door)) {
            return refuseFar(STATE);
        }
        settleNow(0);
        int open = Math.abs(draught.flowThrough(hole));
        settleNow(1 << door);
        return Math.abs(draught.flowThrough(hole)) - open;
    }

    public int chair() {
        settleNow(0);
        int stillest = 0;
        int least = draught.throughRoom(0);
        for (int room = 1; room < told.rooms; room++) {
            int through = draught.throughRoom(room);
            if (through < least) {
                stillest = room;
                least = through;
            }
        }
        return stillest;
    }

    public int finger() {
        int found = NONE;
        int least = 0;
        for (int hole = 0; hole < told.openings.many; hole++) {
            int wider = Rows.at(told.openings.size, hole) + 1;
            if (!told.openings.isDoor(hole) && wider <= MOST_SIZE) {
                settleSized(hole, wider);
                int coal = draught.inflow() * told.now.warm;
                if (draught.flowThrough(hole) > 0 && (found == NONE || coal < least)) {
                    found = hole;
                    least = coal;
                }
            }
        }
        return found;
    }

    public int number(int fan) {
        if (fan < -MOST_FAN) {
            return refuse(BELOW);
        }
        if (fan > MOST_FAN) {
            return refuse(NO_ROOM);
        }
        otherAir.become(0, 0, 0, fan);
        draught.takeSizes(0);
        draught.settle(otherAir);
        return draught.inflow();
    }

    public int winter() {
        int all = 0;
        for (int weather = 0; weather < told.weathers.many; weather++) {
            settleInWeather(weather);
            all += draught.inflow() * otherAir.warm;
        }
        return all;
    }

    public int turnsAbout() {
        int leantIn = 0;
        int leantOut = 0;
        for (int weather = 0; weather < told.weathers.many; weather++) {
            settleInWeather(weather);
            for (int hole = 0; hole < told.openings.many; hole++) {
                int flow = draught.flowThrough(hole);
                leantIn |= flow > 0 ? 1 << hole : 0;
                leantOut |= flow < 0 ? 1 << hole : 0;
            }
        }
        return leantIn & leantOut;
    }

    public int sizes(int hole, int felt, int what) {
        if (!told.openings.has(hole)) {
            return refuse(NOBODY);
        }
        if (what < 0 || what > 2) {
            return refuse(OTHER);
        }
        int least = NONE;
        int greatest = NONE;
        int found = 0;
        for (int size = 0; size <= MOST_SIZE; size++) {
            settleSized(hole, size);
            if (draught.flowThrough(hole) == felt) {
                least = found == 0 ? size : least;
                greatest = size;
                found++;
            }
        }
        return what == 0 ? least : what == 1 ? greatest : found;
    }

    public int hidden(int size, int coal) {
        if (size < 0 || coal < 0) {
            return refuse(BELOW);
        }
        if (size > MOST_SIZE || told.openings.isFull()) {
            return refuse(NO_ROOM);
        }
        int found = NONE;
        for (int room = 0; room < told.rooms && found == NONE; room++) {
            // The hole is there only while its coal is reckoned.
            told.openings.add(room, NONE, PLAIN, size, 5, 0, 0);
            if (coalWithout(0) == coal) {
                found = room;
            }
            told.openings.dropLast();
        }
        return found;
    }

    public int days(int n, int z) {
        if (n < 1) {
            return refuse(BELOW);
        }
        if (n > MOST_DAYS) {
            return refuse(NO_ROOM);
        }
        int smoky = 0;
        seed.z = z;
        draught.takeSizes(0);
        for (int day = 0; day < n; day++) {
            int warm = seed.draw(MOST_WARM + 1);
            int wind = seed.draw(MOST_WIND + 1);
            int side = seed.draw(MOST_SIDE + 1);
            otherAir.become(warm, wind, side, told.now.fan);
            draught.settle(otherAir);
            smoky += draught.smoking() ? 1 : 0;
        }
        return smoky;
    }

    // ---- the round of the candle, the image, the counts

    public int row(int lean) {
        if (lean < 0) {
            return refuse(BELOW);
        }
        if (lean > 2 || told.leans.isFull()) {
            return refuse(NO_ROOM);
        }
        told.leans.add(lean);
        return told.leans.many;
    }

    public int judge() {
        int judged = firstNotSo();
        told.leans.clear();
        return judged;
    }

    public int image() {
        image.become(told);
        imageTaken = true;
        return told.openings.many;
    }

    public int on() {
        if (!imageTaken) {
            return refuse(STATE);
        }
        told.become(image);
        return told.openings.many;
    }

    public int count(int what) {
        switch (what) {
            case 0:
                return told.rooms;
            case 1:
                return told.openings.many;
            case 2:
                return told.openings.doors();
            case 3:
                return told.weathers.many;
            case 4:
                return told.openings.allSizes();
            case 5:
                return told.leans.many;
            case 6:
                return told.letters.many;
            default:
                return what >= 11 && what <= 16 ? Rows.at(refusals, what - 10) : NONE;
        }
    }

    // ---- what several of them need

    private int refuse(int refusal) {
        Rows.put(refusals, -refusal, Rows.at(refusals, -refusal) + 1);
        return refusal;
    }

    /** For calls whose ordinary answers may be below 0. */
    private int refuseFar(int refusal) {
        return FAR - refuse(refusal);
    }

    private int nowOf(int what) {
        switch (what) {
            case 0:
                return told.now.warm;
            case 1:
                return told.now.wind;
            case 2:
                return told.now.side;
            default:
                return told.now.fan;
        }
    }

    private void settleNow(int stopped) {
        draught.takeSizes(stopped);
        draught.settle(told.now);
    }

    private void settleSized(int hole, int size) {
        draught.takeSizes(0);
        draught.changeSize(hole, size);
        draught.settle(told.now);
    }

    private void settleInWeather(int weather) {
        otherAir.become(Rows.at(told.weathers.warm, weather), Rows.at(told.weathers.wind, weather),
                Rows.at(told.weathers.side, weather), told.now.fan);
        draught.takeSizes(0);
        draught.settle(otherAir);
    }

    private int coalWithout(int stopped) {
        draught.takeSizes(stopped);
        draught.settle(told.now);
        return draught.inflow() * told.now.warm;
    }

    /** The holes (bits) of which each alone, stopped, makes the coal no less. */
    private int idleAlone(int coal) {
        int idle = 0;
        for (int hole = 0; hole < told.openings.many; hole++) {
            if (!told.openings.isDoor(hole) && coalWithout(1 << hole) >= coal) {
                idle |= 1 << hole;
            }
        }
        return idle;
    }

    private int leanOf(int hole) {
        int flow = draught.flowThrough(hole);
        return flow > 0 ? 1 : flow < 0 ? 2 : 0;
    }

    private int firstNotSo() {
        settleNow(0);
        int inRow = told.leans.many;
        int there = told.openings.many;
        for (int hole = 0; hole < inRow && hole < there; hole++) {
            if (told.leans.get(hole) != leanOf(hole)) {
                return hole;
            }
        }
        return inRow == there ? NONE : Math.min(inRow, there);
    }

    /** Rows of numbers of which nothing beside their ends is ever touched. */
    static final class Rows {
        static int at(int[] row, int i) {
            return i >= 0 && i < row.length ? row[i] : 0;
        }

        static void put(int[] row, int i, int v) {
            if (i >= 0 && i < row.length) {
                row[i] = v;
            }
        }

        static void copy(int[] from, int[] to) {
            for (int i = 0; i < from.length && i < to.length; i++) {
                to[i] = from[i];
            }
        }
    }

    /** Numbers told one by one, as many as there is room for. */
    static final class Row {
        private final int[] numbers;
        int many;

        Row(int room) {
            numbers = new int[Math.max(room, 0)];
            many = 0;
        }

        boolean isFull() {
            return many >= numbers.length;
        }

        void add(int number) {
            if (!isFull()) {
                Rows.put(numbers, many, number);
                many++;
            }
        }

        /** -1 behind the last. */
        int get(int i) {
            return i < many ? Rows.at(numbers, i) : -1;
        }

        void clear() {
            many = 0;
        }

        void become(Row other) {
            Rows.copy(other.numbers, numbers);
            many = other.many;
        }
    }

    /** How warm it is, how the wind blows, how the fan turns. */
    static final class Air {
        int warm;
        int wind;
        int side;
        int fan;

        void become(int newWarm, int newWind, int newSide, int newFan) {
            warm = newWarm;
            wind = newWind;
            side = newSide;
            fan = newFan;
        }

        /** What the wind does at a side of the house. */
        int windAt(int houseSide) {
            if (houseSide == side) {
                return wind * wind;
            }
            return houseSide == ((side + 2) & 3) ? -(wind * wind / 2) : 0;
        }
    }

    static final class Weathers {
        final int[] warm = new int[MOST_WEATHERS];
        final int[] wind = new int[MOST_WEATHERS];
        final int[] side = new int[MOST_WEATHERS];
        int many;

        boolean isFull() {
            return many >= MOST_WEATHERS;
        }

        void add(int newWarm, int newWind, int newSide) {
            if (!isFull()) {
                Rows.put(warm, many, newWarm);
                Rows.put(wind, many, newWind);
                Rows.put(side, many, newSide);
                many++;
            }
        }

        void become(Weathers other) {
            Rows.copy(other.warm, warm);
            Rows.copy(other.wind, wind);
            Rows.copy(other.side, side);
            many = other.many;
        }
    }

    /** Holes and doors, by their common numbers. */
    static final class Openings {
        final int[] room = new int[MOST_OPENINGS];
        final int[] other = new int[MOST_OPENINGS];
        final int[] kind = new int[MOST_OPENINGS];
        final int[] size = new int[MOST_OPENINGS];
        final int[] height = new int[MOST_OPENINGS];
        final int[] side = new int[MOST_OPENINGS];
        final int[] price = new int[MOST_OPENINGS];
        int many;

        boolean has(int i) {
            return i >= 0 && i < many;
        }

        boolean isFull() {
            return many >= MOST_OPENINGS;
        }

        boolean isDoor(int i) {
            return Rows.at(kind, i) == DOOR;
        }

        void add(int inRoom, int otherRoom, int itsKind, int itsSize, int itsHeight, int itsSide, int itsPrice) {
            if (!isFull()) {
                Rows.put(room, many, inRoom);
                Rows.put(other, many, otherRoom);
                Rows.put(kind, many, itsKind);
                Rows.put(size, many, itsSize);
                Rows.put(height, many, itsHeight);
                Rows.put(side, many, itsSide);
                Rows.put(price, many, itsPrice);
                many++;
            }
        }

        void dropLast() {
            many = Math.max(many - 1, 0);
        }

        void become(Openings from) {
            Rows.copy(from.room, room);
            Rows.copy(from.other, other);
            Rows.copy(from.kind, kind);
            Rows.copy(from.size, size);
            Rows.copy(from.height, height);
            Rows.copy(from.side, side);
            Rows.copy(from.price, price);
            many = from.many;
        }

        /** How many rooms there must be for all the rooms that holes and doors tell of. */
        int roomsToldOf() {
            int rooms = 0;
            for (int i = 0; i < many; i++) {
                rooms = Math.max(rooms, Math.max(Rows.at(room, i), Rows.at(other, i)) + 1);
            }
            return rooms;
        }

        int doors() {
            int found = 0;
            for (int i = 0; i < many; i++) {
                found += isDoor(i) ? 1 : 0;
            }
            return found;
        }

        int allSizes() {
            int all = 0;
            for (int i = 0; i < many; i++) {
                all += Rows.at(size, i);
            }
            return all;
        }

        /** Whether these (bits) are few enough, holes alone, and no dearer than the coin. */
        boolean canBeStopped(int set, int coin) {
            int prices = 0;
            for (int i = 0; i < many; i++) {
                if ((set >> i & 1) == 1) {
                    if (isDoor(i)) {
                        return false;
                    }
                    prices += Rows.at(price, i);
                }
            }
            return Integer.bitCount(set) <= MOST_STOPPED && prices <= coin;
        }

        /** Each kind is reckoned from the kind that it stands under. */
        int outsidePush(int i, Air air) {
            int wind = air.windAt(Rows.at(side, i));
            int plain = air.warm * (5 - Rows.at(height, i)) + wind;
            int high = plain - air.warm;
            int chimney = high - 3 * air.warm - 2 * air.wind;
            switch (Rows.at(kind, i)) {
                case LOW:
                    return plain + air.warm;
                case HIGH:
                    return high;
                case WINDWARD:
                    return plain + wind;
                case CHIMNEY:
                    return chimney;
                case FANS:
                    return plain + air.fan;
                case STOVES:
                    return chimney - 20;
                default:
                    return plain;
            }
        }
    }

    /** All that is told, and how it is now: what the image keeps. */
    static final class Told {
        int rooms;
        final Openings openings;
        final Weathers weathers;
        final Air now;
        final Row letters;
        final Row leans;

        Told() {
            rooms = 2;
            openings = new Openings();
            weathers = new Weathers();
            now = new Air();
            now.warm = 10;
            letters = new Row(MOST_LETTERS);
            leans = new Row(MOST_OPENINGS);
        }

        void become(Told from) {
            rooms = from.rooms;
            openings.become(from.openings);
            weathers.become(from.weathers);
            now.become(from.now.warm, from.now.wind, from.now.side, from.now.fan);
            letters.become(from.letters);
            leans.become(from.leans);
        }
    }

    /** Draws numbers from a seed. */
    static final class Seed {
        int z;

        int draw(int below) {
            z = z * 1664525 + 1013904223;
            return below > 0 ? (z & 0x7fffffff) / 256 % below : 0;
        }
    }

    /** Reads the letters told as statements, and makes them part of the house. */
    static final class Reader {
        private static final int FAULT_OF_LETTERS = -1000;
        private static final int FAULT_OF_STATEMENT = -2000;

        private final Told told;
        private final Row numbers;
        private int place;
        private int verb;

        Reader(Told house) {
            told = house;
            numbers = new Row(6);
        }

        /** 0 if the letters are statements one behind another, at least one. */
        int faultOfLetters() {
            place = 0;
            boolean fits = passStatement();
            for (int i = 0; i < MOST_LETTERS && fits && place < told.letters.many; i++) {
                fits = passStatement();
            }
            return fits ? 0 : FAULT_OF_LETTERS - place;
        }

        /** How many statements came, or the fault; only behind letters without fault. */
        int takeStatements() {
            int rooms = told.rooms;
            int openings = told.openings.many;
            int weathers = told.weathers.many;
            int taken = 0;
            place = 0;
            for (int i = 0; i < MOST_LETTERS && place < told.letters.many; i++) {
                int start = place;
                if (!passStatement() || !takeStatement()) {
                    // With a fault nothing comes: what is behind these numbers counts no more.
                    told.rooms = rooms;
                    told.openings.many = openings;
                    told.weathers.many = weathers;
                    return FAULT_OF_STATEMENT - start;
                }
                taken++;
            }
            return taken;
        }

        /** The place stays at the first letter that does not fit. */
        private boolean passStatement() {
            numbers.clear();
            verb = told.letters.get(place);
            String shape = shapeBehind(verb);
            if (shape.isEmpty()) {
                return false;
            }
            place++;
            for (int i = 0; i < shape.length(); i++) {
                if (!passPart(shape.charAt(i))) {
                    return false;
                }
            }
            return true;
        }

        /** 9 a digit, # one or two digits, k a letter of a kind, else the sign itself. */
        private static String shapeBehind(int verb) {
            switch (verb) {
                case 'n':
                    return "9;";
                case 'd':
                    return "999;";
                case 'h':
                    return "9k999,#;";
                case 'w':
                    return "#,#,9;";
                default:
                    return "";
            }
        }

        private boolean passPart(char part) {
            switch (part) {
                case '9':
                    return passNumber(1);
                case '#':
                    return passNumber(2);
                case 'k':
                    return passKind();
                default:
                    return passSign(part);
            }
        }

        private boolean passNumber(int mostDigits) {
            int number = 0;
            int digits = 0;
            for (int i = 0; i < mostDigits; i++) {
                int c = told.letters.get(place);
                if (c < '0' || c > '9') {
                    break;
                }
                number = 10 * number + c - '0';
                digits++;
                place++;
            }
            numbers.add(number);
            return digits > 0;
        }

        private boolean passKind() {
            int c = told.letters.get(place);
            int kind = c < 0 ? -1 : KINDS.indexOf((char) c);
            if (kind < 0) {
                return false;
            }
            numbers.add(kind);
            place++;
            return true;
        }

        private boolean passSign(char sign) {
            if (told.letters.get(place) != sign) {
                return false;
            }
            place++;
            return true;
        }

        /** Whether the statement passed last is as it must be; then it comes. */
        private boolean takeStatement() {
            switch (verb) {
                case 'n':
                    return takeRooms(numbers.get(0));
                case 'd':
                    return takeDoor(numbers.get(0), numbers.get(1), numbers.get(2));
                case 'h':
                    return takeHole();
                default:
                    return takeWeather(numbers.get(0), numbers.get(1), numbers.get(2));
            }
        }

        private boolean takeRooms(int rooms) {
            if (rooms < 1 || rooms > MOST_ROOMS || rooms < told.openings.roomsToldOf()) {
                return false;
            }
            told.rooms = rooms;
            return true;
        }

        private boolean takeDoor(int first, int second, int size) {
            if (first == second || first >= told.rooms || second >= told.rooms || told.openings.isFull()) {
                return false;
            }
            told.openings.add(first, second, DOOR, size, 0, 0, 0);
            return true;
        }

        private boolean takeHole() {
            int room = numbers.get(0);
            int side = numbers.get(4);
            if (room >= told.rooms || side > MOST_SIDE || told.openings.isFull()) {
                return false;
            }
            told.openings.add(room, NONE, numbers.get(1), numbers.get(2), numbers.get(3), side, numbers.get(5));
            return true;
        }

        private boolean takeWeather(int warm, int wind, int side) {
            if (warm > MOST_WARM || wind > MOST_WIND || side > MOST_SIDE || told.weathers.isFull()) {
                return false;
            }
            told.weathers.add(warm, wind, side);
            return true;
        }
    }

    /** The house's air, settled under an air outside, with sizes that may be other than told. */
    static final class Draught {
        private static final int ROUNDS = 200;
        /** 1000 at the most outside (a windward hole), -200 at the least in a room. */
        private static final int MOST_APART = 1200;
        private static final int OUTSIDE = -1;

        private final Told told;
        private final int[] sizes;
        private final int[] from;
        private final int[] into;
        private final int[] outside;
        final int[] pushes;
        private final int[] earlier;
        private final int[] roots;

        Draught(Told house) {
            told = house;
            sizes = new int[MOST_OPENINGS];
            from = new int[MOST_OPENINGS];
            into = new int[MOST_OPENINGS];
            outside = new int[MOST_OPENINGS];
            pushes = new int[MOST_ROOMS];
            earlier = new int[MOST_ROOMS];
            roots = new int[MOST_APART + 1];
            int root = 0;
            for (int i = 0; i < roots.length; i++) {
                if ((root + 1) * (root + 1) <= i) {
                    root++;
                }
                roots[i] = root;
            }
        }

        /** Sizes as told, but for those (bits) that are stopped. */
        void takeSizes(int stopped) {
            for (int i = 0; i < told.openings.many; i++) {
                Rows.put(sizes, i, (stopped >> i & 1) == 1 ? 0 : Rows.at(told.openings.size, i));
            }
        }

        void changeSize(int i, int size) {
            Rows.put(sizes, i, size);
        }

        void settle(Air air) {
            begin(air);
            // A pair of rounds that changes nothing is told again by each pair behind it.
            for (int pair = 0; pair < ROUNDS / 2; pair++) {
                Rows.copy(pushes, earlier);
                doRound();
                doRound();
                if (isAsEarlier()) {
                    break;
                }
            }
        }

        private void begin(Air air) {
            for (int i = 0; i < told.openings.many; i++) {
                boolean door = told.openings.isDoor(i);
                int room = Rows.at(told.openings.room, i);
                Rows.put(from, i, door ? room : OUTSIDE);
                Rows.put(into, i, door ? Rows.at(told.openings.other, i) : room);
                Rows.put(outside, i, told.openings.outsidePush(i, air));
            }
            for (int room = 0; room < pushes.length; room++) {
                pushes[room] = 0;
            }
        }

        private void doRound() {
            for (int room = 0; room < told.rooms; room++) {
                int more = 0;
                for (int i = 0; i < told.openings.many; i++) {
                    if (Rows.at(into, i) == room) {
                        more += flowThrough(i);
                    } else if (Rows.at(from, i) == room) {
                        more -= flowThrough(i);
                    }
                }
                Rows.put(pushes, room, Rows.at(pushes, room) + Integer.compare(more, 0));
            }
        }

        private boolean isAsEarlier() {
            for (int room = 0; room < told.rooms; room++) {
                if (Rows.at(pushes, room) != Rows.at(earlier, room)) {
                    return false;
                }
            }
            return true;
        }

        int flowThrough(int i) {
            int before = Rows.at(from, i);
            int pushBefore = before == OUTSIDE ? Rows.at(outside, i) : Rows.at(pushes, before);
            int apart = pushBefore - Rows.at(pushes, Rows.at(into, i));
            int flow = Rows.at(sizes, i) * Rows.at(roots, Math.min(Math.abs(apart), MOST_APART));
            return apart < 0 ? -flow : flow;
        }

        /** All that flows in by holes. */
        int inflow() {
            int all = 0;
            for (int i = 0; i < told.openings.many; i++) {
                if (!told.openings.isDoor(i)) {
                    all += Math.max(flowThrough(i), 0);
                }
            }
            return all;
        }

        boolean smoking() {
            for (int i = 0; i < told.openings.many; i++) {
                boolean stove = Rows.at(told.openings.kind, i) == STOVES;
                if (stove && Rows.at(sizes, i) > 0 && flowThrough(i) >= 0) {
                    return true;
                }
            }
            return false;
        }

        /** All that flows through a room's holes and doors, in and out. */
        int throughRoom(int room) {
            int all = 0;
            for (int i = 0; i < told.openings.many; i++) {
                if (Rows.at(into, i) == room || Rows.at(from, i) == room) {
                    all += Math.abs(flowThrough(i));
                }
            }
            return all;
        }
    }
}
