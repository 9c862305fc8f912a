import java.util.NoSuchElementException;

/**
 * A laundry service: clients bring garments, machines wash them, and socks get lost.
 * The document ../shared/DOC.md says what each public method does.
 */
public final class LaundryService {
    private static final int GARMENT_LIMIT = 16;
    private static final int CLIENTS = 4;
    private static final int MACHINES = 2;
    private static final int MACHINE_LIMIT = 5;
    private static final int COLOURS = 8;
    private static final int STAIN_KINDS = 8;
    private static final int ALL_STAINS = 255;

    // A garment's place as promise 32 packs it; the machine m is the place FIRST_MACHINE + m.
    private static final int BAG = 0;
    private static final int FIRST_MACHINE = 1;
    private static final int LOST = 3;

    // Temperatures are held as twice the degrees, so that every comparison is one of ints.
    private static final int LEAST_HALVES = 40;
    private static final int GREATEST_HALVES = 180;
    private static final int FIRST_HALVES = 80;
    private static final int COLOURS_RUN_HALVES = 120;
    private static final int STAIN_HALVES = 50;
    private static final int STAIN_STEP_HALVES = 10;

    private static final int DAMAGE_OF_RUN_COLOUR = 3;
    private static final int DAMAGE_OF_LOST_SOCK = 10;

    private static final int INPUT_LIMIT = 60;
    private static final int SHORTEST_COMMAND = 5;
    private static final int UNDO_LIMIT = 8;

    // A kind, a colour, all the stains and a blank for each garment.
    private static final int OUTPUT_LIMIT = GARMENT_LIMIT * (3 + STAIN_KINDS);

    private static final Keyword[] KEYWORDS = Keyword.values();

    private final State state = new State();
    private final State trial = new State();
    private final State saved = new State();
    private boolean hasSaved = false;
    private final History history = new History();
    private final CommandText input = new CommandText();
    private final Output output = new Output();
    private int keptErrorPosition = -1;
    private int keptFailedCommand = -1;

    public LaundryService() {
    }

    // ---- garments and machines are changed

    public int bring(int client, boolean isSock, int colour, int stains)
            throws IndexOutOfBoundsException, IllegalArgumentException, IllegalStateException {
        raise(state.faultOfBringing(client, colour, stains));
        history.remember(state);
        return state.addGarment(client, isSock, colour, stains);
    }

    public int load(int garment, int machine)
            throws IndexOutOfBoundsException, UnsupportedOperationException, IllegalStateException {
        raise(state.faultOfLoading(garment, machine));
        history.remember(state);
        state.putIntoMachine(garment, machine);
        return state.countIn(machine);
    }

    public int takeOut(int garment) throws IndexOutOfBoundsException, UnsupportedOperationException {
        raise(state.faultOfTakingOut(garment));
        history.remember(state);
        return state.putBackIntoBag(garment);
    }

    public float setTemperature(int machine, int halves)
            throws IndexOutOfBoundsException, IllegalArgumentException {
        raise(state.faultOfHeating(machine, halves));
        history.remember(state);
        float previous = state.degrees(machine);
        state.halves[machine] = halves;
        return previous;
    }

    public int run(int machine) throws IndexOutOfBoundsException, IllegalStateException {
        raise(state.faultOfRunning(machine));
        history.remember(state);
        return Washing.wash(state, machine);
    }

    // ---- single garments

    public int garmentCount() {
        return state.garmentCount;
    }

    public int client(int garment) throws IndexOutOfBoundsException {
        requireGarment(garment);
        return state.clients[garment];
    }

    public boolean isSock(int garment) throws IndexOutOfBoundsException {
        requireGarment(garment);
        return state.socks[garment];
    }

    public int colour(int garment) throws IndexOutOfBoundsException {
        requireGarment(garment);
        return state.colours[garment];
    }

    public int stains(int garment) throws IndexOutOfBoundsException {
        requireGarment(garment);
        return state.stains[garment];
    }

    public int stainCount(int garment) throws IndexOutOfBoundsException {
        requireGarment(garment);
        return state.stainsOn(garment);
    }

    public char place(int garment) throws IndexOutOfBoundsException {
        requireGarment(garment);
        return placeSign(state.places[garment]);
    }

    public int washes(int garment) throws IndexOutOfBoundsException {
        requireGarment(garment);
        return state.washes[garment];
    }

    public int partner(int garment)
            throws IndexOutOfBoundsException, UnsupportedOperationException, NoSuchElementException {
        requireGarment(garment);
        if (!state.socks[garment]) {
            throw new UnsupportedOperationException("only a sock has a partner");
        }
        int other = Pairs.otherSock(state, garment);
        if (other < 0) {
            throw new NoSuchElementException("the sock has no partner");
        }
        return other;
    }

    public long packed(int garment) throws IndexOutOfBoundsException {
        requireGarment(garment);
        return state.pack(garment);
    }

    // ---- bags

    public int pairCount(int client) throws IndexOutOfBoundsException {
        requireClient(client);
        return Pairs.formed(state, client);
    }

    public int pairCountByParity(int client) throws IndexOutOfBoundsException {
        requireClient(client);
        return Pairs.byParity(state, client);
    }

    public int inBag(int client) throws IndexOutOfBoundsException {
        requireClient(client);
        return state.garmentsInBag(client);
    }

    public int lost() {
        return state.garmentsAt(LOST);
    }

    // ---- machines

    public int inMachine(int machine) throws IndexOutOfBoundsException {
        requireMachine(machine);
        return state.garmentsAt(FIRST_MACHINE + machine);
    }

    public float temperature(int machine) throws IndexOutOfBoundsException {
        requireMachine(machine);
        return state.degrees(machine);
    }

    public int temperatureBits(int machine) throws IndexOutOfBoundsException {
        requireMachine(machine);
        return bitsOf(state.degrees(machine));
    }

    public int washableStains(int machine) throws IndexOutOfBoundsException {
        requireMachine(machine);
        return Washing.removedAt(state.halves[machine]);
    }

    public int commonStains(int machine) throws IndexOutOfBoundsException {
        requireMachine(machine);
        return state.stainsOfAllIn(machine);
    }

    public int coloursIn(int machine) throws IndexOutOfBoundsException {
        requireMachine(machine);
        return state.coloursOfLoad(machine);
    }

    public int damage(int machine) throws IndexOutOfBoundsException {
        requireMachine(machine);
        return damageOfTrial(machine);
    }

    public int damageByMasks(int machine) throws IndexOutOfBoundsException {
        requireMachine(machine);
        return Washing.damageFromSets(state, machine, state.halves[machine]);
    }

    public int bestTemperature(int machine) throws IndexOutOfBoundsException, IllegalStateException {
        requireMachine(machine);
        if (state.countIn(machine) == 0) {
            throw new IllegalStateException("the machine is empty");
        }
        return Washing.leastHarmfulHalves(state, machine);
    }

    // ---- prices

    public float price(int machine, int client) throws IndexOutOfBoundsException {
        requireMachine(machine);
        requireClient(client);
        return state.costOfRun(machine, client);
    }

    public float paid(int client) throws IndexOutOfBoundsException {
        requireClient(client);
        return state.paid[client];
    }

    public int paidBits(int client) throws IndexOutOfBoundsException {
        requireClient(client);
        return bitsOf(state.paid[client]);
    }

    public int runCount() {
        return state.runCount;
    }

    // ---- rankings and shares

    public int dirtiest(int rank) throws NoSuchElementException {
        for (int garment = 0; garment < state.garmentCount; garment++) {
            if (state.places[garment] != LOST && dirtierThan(garment) == rank) {
                return garment;
            }
        }
        throw new NoSuchElementException("no garment has this rank");
    }

    public int spender(int rank) throws NoSuchElementException {
        for (int client = 0; client < CLIENTS; client++) {
            if (spendingMoreThan(client) == rank) {
                return client;
            }
        }
        throw new NoSuchElementException("no client has this rank");
    }

    public double meanStains() throws ArithmeticException {
        int sum = 0;
        int number = 0;
        for (int garment = 0; garment < state.garmentCount; garment++) {
            if (state.places[garment] != LOST) {
                sum += state.stainsOn(garment);
                number++;
            }
        }
        if (number == 0) {
            throw new ArithmeticException("no garments have a mean");
        }
        return (double) sum / (double) number;
    }

    public float lostShare() throws ArithmeticException {
        if (state.garmentCount == 0) {
            throw new ArithmeticException("no garments have a share");
        }
        int lostOnes = Integer.bitCount(state.garmentsAt(LOST));
        return (float) lostOnes / (float) state.garmentCount;
    }

    public boolean isConsistent() {
        return machinesAgree() && pairsAgree();
    }

    // ---- commands

    public int feed(char character) throws IllegalStateException {
        if (input.length >= INPUT_LIMIT) {
            throw new IllegalStateException("the input buffer is full");
        }
        return input.append(character);
    }

    public int runCommands() throws IllegalArgumentException, UnsupportedOperationException {
        boolean wellFormed = input.parse();
        input.empty();
        if (!wellFormed) {
            keptErrorPosition = input.position;
            throw new IllegalArgumentException("the text is malformed");
        }
        history.prepare(state);
        int failing = carryOutUntilFault();
        if (failing < input.commandCount) {
            history.takePreparedBack(state);
            keptFailedCommand = failing;
            throw new UnsupportedOperationException("a command failed");
        }
        history.keepPrepared();
        return input.commandCount;
    }

    public int errorPosition() throws NoSuchElementException {
        if (keptErrorPosition < 0) {
            throw new NoSuchElementException("no text was malformed");
        }
        return keptErrorPosition;
    }

    public int failedCommand() throws NoSuchElementException {
        if (keptFailedCommand < 0) {
            throw new NoSuchElementException("no command failed");
        }
        return keptFailedCommand;
    }

    // ---- output

    public int writeBag(int client) throws IndexOutOfBoundsException {
        requireClient(client);
        output.empty();
        for (int garment = 0; garment < state.garmentCount; garment++) {
            if (state.isInBagOf(garment, client)) {
                describe(garment);
            }
        }
        return output.length;
    }

    public char outputChar(int index) throws IndexOutOfBoundsException {
        if (index < 0 || index >= output.length) {
            throw new IndexOutOfBoundsException("no such character of the output");
        }
        return output.characters[index];
    }

    // ---- undo, save and restore

    public int undoCount() {
        return history.count;
    }

    public int undo() throws IllegalStateException {
        if (history.count == 0) {
            throw new IllegalStateException("no call can be undone");
        }
        history.stepBack(state);
        return history.count;
    }

    public int save() {
        saved.copyFrom(state);
        hasSaved = true;
        return saved.garmentCount;
    }

    public int restore() throws IllegalStateException {
        if (!hasSaved) {
            throw new IllegalStateException("no state was saved");
        }
        state.copyFrom(saved);
        history.forget();
        return state.garmentCount;
    }

    // ---- checks of arguments

    private void requireGarment(int garment) {
        if (!state.isGarment(garment)) {
            throw new IndexOutOfBoundsException("no such garment");
        }
    }

    private static void requireClient(int client) {
        if (!isClient(client)) {
            throw new IndexOutOfBoundsException("no such client");
        }
    }

    private static void requireMachine(int machine) {
        if (!isMachine(machine)) {
            throw new IndexOutOfBoundsException("no such machine");
        }
    }

    private static boolean isClient(int client) {
        return client >= 0 && client < CLIENTS;
    }

    private static boolean isMachine(int machine) {
        return machine >= 0 && machine < MACHINES;
    }

    private static void raise(Fault fault) {
        if (fault == Fault.INDEX) {
            throw new IndexOutOfBoundsException("no such client, garment or machine");
        }
        if (fault == Fault.ARGUMENT) {
            throw new IllegalArgumentException("a number is out of range");
        }
        if (fault == Fault.PLACE) {
            throw new UnsupportedOperationException("the garment is at another place");
        }
        if (fault == Fault.STATE) {
            throw new IllegalStateException("the service or the machine is full, or the machine empty");
        }
    }

    // ---- what the methods of the face share

    private static char placeSign(int place) {
        if (place == BAG) {
            return 'b';
        }
        return place == LOST ? 'x' : (char) ('0' + place - FIRST_MACHINE);
    }

    /**
     * The bits of a float that is 0 or at least 1, as all temperatures and sums of prices are;
     * worked out by arithmetic because LANGUAGE.md leaves no Float.floatToIntBits.
     */
    private static int bitsOf(float value) {
        if (value < 1f) {
            return 0;
        }
        float fraction = value;
        int exponent = 127;
        while (fraction >= 2f && exponent < 254) {
            fraction = fraction / 2f;
            exponent++;
        }
        return exponent << 23 | (int) ((fraction - 1f) * 8388608f);
    }

    private int damageOfTrial(int machine) {
        trial.copyFrom(state);
        return Washing.damageOfWashing(trial, machine);
    }

    /** How many garments stand before this one in the ranking of promise 34. */
    private int dirtierThan(int garment) {
        int own = state.stainsOn(garment);
        int before = 0;
        for (int other = 0; other < state.garmentCount; other++) {
            int stainsOfOther = state.stainsOn(other);
            boolean first = stainsOfOther > own || stainsOfOther == own && other < garment;
            if (state.places[other] != LOST && first) {
                before++;
            }
        }
        return before;
    }

    /** How many clients stand before this one in the ranking of promise 35. */
    private int spendingMoreThan(int client) {
        float own = state.paid[client];
        int before = 0;
        for (int other = 0; other < CLIENTS; other++) {
            float sumOfOther = state.paid[other];
            if (sumOfOther > own || sumOfOther == own && other < client) {
                before++;
            }
        }
        return before;
    }

    private boolean machinesAgree() {
        for (int machine = 0; machine < MACHINES; machine++) {
            int fromSets = Washing.damageFromSets(state, machine, state.halves[machine]);
            if (damageOfTrial(machine) != fromSets || state.countIn(machine) > MACHINE_LIMIT) {
                return false;
            }
        }
        return true;
    }

    private boolean pairsAgree() {
        for (int client = 0; client < CLIENTS; client++) {
            if (Pairs.formed(state, client) != Pairs.byParity(state, client)) {
                return false;
            }
        }
        return true;
    }

    private void describe(int garment) {
        if (output.length > 0) {
            output.append(' ');
        }
        output.append(state.socks[garment] ? 's' : 'g');
        output.append((char) ('0' + state.colours[garment]));
        int stars = state.stainsOn(garment);
        for (int star = 0; star < stars; star++) {
            output.append('*');
        }
    }

    // ---- commands are carried out on the state alone, since runCommands is recorded as one call

    /** Answers the index of the first command that fails, or the number of commands if none does. */
    private int carryOutUntilFault() {
        for (int index = 0; index < input.commandCount; index++) {
            Command command = input.commands[index];
            if (faultOf(command) != Fault.NONE) {
                return index;
            }
            carryOut(command);
        }
        return input.commandCount;
    }

    private Fault faultOf(Command command) {
        if (command.keyword == Keyword.SOCK || command.keyword == Keyword.SHIRT) {
            return state.faultOfBringing(command.first, command.second, command.third);
        }
        if (command.keyword == Keyword.LOAD) {
            return state.faultOfLoading(command.first, command.second);
        }
        if (command.keyword == Keyword.OUT) {
            return state.faultOfTakingOut(command.first);
        }
        if (command.keyword == Keyword.HEAT) {
            return state.faultOfHeating(command.first, 2 * command.second);
        }
        return state.faultOfRunning(command.first);
    }

    /** Only for a command without a fault. */
    private void carryOut(Command command) {
        if (command.keyword == Keyword.SOCK || command.keyword == Keyword.SHIRT) {
            boolean sock = command.keyword == Keyword.SOCK;
            state.addGarment(command.first, sock, command.second, command.third);
        } else if (command.keyword == Keyword.LOAD) {
            state.putIntoMachine(command.first, command.second);
        } else if (command.keyword == Keyword.OUT) {
            state.putBackIntoBag(command.first);
        } else if (command.keyword == Keyword.HEAT) {
            state.halves[command.first] = 2 * command.second;
        } else {
            Washing.wash(state, command.first);
        }
    }

    /** Why a change is refused. */
    private enum Fault {
        NONE, INDEX, ARGUMENT, PLACE, STATE
    }

    /** All that undo and restore bring back. */
    private static final class State {
        final int[] clients = new int[GARMENT_LIMIT];
        final boolean[] socks = new boolean[GARMENT_LIMIT];
        final int[] colours = new int[GARMENT_LIMIT];
        final int[] stains = new int[GARMENT_LIMIT];
        final int[] places = new int[GARMENT_LIMIT];
        final int[] washes = new int[GARMENT_LIMIT];
        int garmentCount = 0;
        final int[] halves = new int[MACHINES];
        final float[] paid = new float[CLIENTS];
        int runCount = 0;

        State() {
            for (int machine = 0; machine < MACHINES; machine++) {
                halves[machine] = FIRST_HALVES;
            }
        }

        /** Leaves the rows behind the last garment as they are: bring writes them anew. */
        void copyFrom(State other) {
            for (int garment = 0; garment < other.garmentCount; garment++) {
                clients[garment] = other.clients[garment];
                socks[garment] = other.socks[garment];
                colours[garment] = other.colours[garment];
                stains[garment] = other.stains[garment];
                places[garment] = other.places[garment];
                washes[garment] = other.washes[garment];
            }
            garmentCount = other.garmentCount;
            for (int machine = 0; machine < MACHINES; machine++) {
                halves[machine] = other.halves[machine];
            }
            for (int client = 0; client < CLIENTS; client++) {
                paid[client] = other.paid[client];
            }
            runCount = other.runCount;
        }

        boolean isGarment(int garment) {
            return garment >= 0 && garment < garmentCount;
        }

        Fault faultOfBringing(int client, int colour, int stainSet) {
            if (!isClient(client)) {
                return Fault.INDEX;
            }
            if (colour < 0 || colour >= COLOURS || stainSet < 0 || stainSet > ALL_STAINS) {
                return Fault.ARGUMENT;
            }
            return garmentCount >= GARMENT_LIMIT ? Fault.STATE : Fault.NONE;
        }

        Fault faultOfLoading(int garment, int machine) {
            if (!isGarment(garment) || !isMachine(machine)) {
                return Fault.INDEX;
            }
            if (places[garment] != BAG) {
                return Fault.PLACE;
            }
            return countIn(machine) >= MACHINE_LIMIT ? Fault.STATE : Fault.NONE;
        }

        Fault faultOfTakingOut(int garment) {
            if (!isGarment(garment)) {
                return Fault.INDEX;
            }
            boolean inAMachine = places[garment] != BAG && places[garment] != LOST;
            return inAMachine ? Fault.NONE : Fault.PLACE;
        }

        Fault faultOfHeating(int machine, int newHalves) {
            if (!isMachine(machine)) {
                return Fault.INDEX;
            }
            boolean inRange = newHalves >= LEAST_HALVES && newHalves <= GREATEST_HALVES;
            return inRange ? Fault.NONE : Fault.ARGUMENT;
        }

        Fault faultOfRunning(int machine) {
            if (!isMachine(machine)) {
                return Fault.INDEX;
            }
            return countIn(machine) == 0 ? Fault.STATE : Fault.NONE;
        }

        int addGarment(int client, boolean sock, int colour, int stainSet) {
            int garment = garmentCount;
            clients[garment] = client;
            socks[garment] = sock;
            colours[garment] = colour;
            stains[garment] = stainSet;
            places[garment] = BAG;
            washes[garment] = 0;
            garmentCount++;
            return garment;
        }

        void putIntoMachine(int garment, int machine) {
            places[garment] = FIRST_MACHINE + machine;
        }

        /** Answers the machine that the garment was in. */
        int putBackIntoBag(int garment) {
            int machine = places[garment] - FIRST_MACHINE;
            places[garment] = BAG;
            return machine;
        }

        float degrees(int machine) {
            return (float) halves[machine] / 2f;
        }

        int stainsOn(int garment) {
            return Integer.bitCount(stains[garment]);
        }

        boolean isInBagOf(int garment, int client) {
            return places[garment] == BAG && clients[garment] == client;
        }

        boolean isIn(int garment, int machine) {
            return places[garment] == FIRST_MACHINE + machine;
        }

        int garmentsInBag(int client) {
            int mask = 0;
            for (int garment = 0; garment < garmentCount; garment++) {
                if (isInBagOf(garment, client)) {
                    mask |= 1 << garment;
                }
            }
            return mask;
        }

        int garmentsAt(int place) {
            int mask = 0;
            for (int garment = 0; garment < garmentCount; garment++) {
                if (places[garment] == place) {
                    mask |= 1 << garment;
                }
            }
            return mask;
        }

        int countIn(int machine) {
            return Integer.bitCount(garmentsAt(FIRST_MACHINE + machine));
        }

        int stainsOfAllIn(int machine) {
            int common = ALL_STAINS;
            for (int garment = 0; garment < garmentCount; garment++) {
                if (isIn(garment, machine)) {
                    common &= stains[garment];
                }
            }
            return common;
        }

        int coloursOfLoad(int machine) {
            int mask = 0;
            for (int garment = 0; garment < garmentCount; garment++) {
                if (isIn(garment, machine)) {
                    mask |= 1 << colours[garment];
                }
            }
            return mask;
        }

        int greatestColourIn(int machine) {
            int greatest = 0;
            for (int garment = 0; garment < garmentCount; garment++) {
                if (isIn(garment, machine)) {
                    greatest = Math.max(greatest, colours[garment]);
                }
            }
            return greatest;
        }

        float costOfRun(int machine, int client) {
            int own = 0;
            int payers = 0;
            for (int garment = 0; garment < garmentCount; garment++) {
                if (isIn(garment, machine)) {
                    own += clients[garment] == client ? 1 : 0;
                    payers |= 1 << clients[garment];
                }
            }
            int payerCount = Integer.bitCount(payers);
            if (own == 0 || payerCount == 0) {
                return 0f;
            }
            float forGarments = (float) (1.25 * own);
            float forHeat = (float) (degrees(machine) * 0.125 / payerCount);
            return forGarments + forHeat;
        }

        void charge(int machine) {
            for (int client = 0; client < CLIENTS; client++) {
                paid[client] = paid[client] + costOfRun(machine, client);
            }
        }

        long pack(int garment) {
            int sockBit = socks[garment] ? 1 : 0;
            int low = stains[garment] | colours[garment] << 8 | clients[garment] << 11
                    | sockBit << 13 | places[garment] << 14;
            return (long) washes[garment] << 16 | low;
        }
    }

    /** What a run does to a load, step by step, and what it would do, from the sets of stains. */
    private static final class Washing {
        /** Answers the number of socks that are lost. */
        static int wash(State state, int machine) {
            state.charge(machine);
            state.runCount++;
            removeStains(state, machine);
            letColoursRun(state, machine);
            countWash(state, machine);
            int lostSocks = loseSocks(state, machine);
            returnToBags(state, machine);
            return lostSocks;
        }

        /** Washes the given state itself, which is a copy, as far as damage is done. */
        static int damageOfWashing(State copy, int machine) {
            removeStains(copy, machine);
            int stainsLeft = 0;
            for (int garment = 0; garment < copy.garmentCount; garment++) {
                if (copy.isIn(garment, machine)) {
                    stainsLeft += copy.stainsOn(garment);
                }
            }
            int stained = letColoursRun(copy, machine);
            int lostSocks = loseSocks(copy, machine);
            return stainsLeft + DAMAGE_OF_RUN_COLOUR * stained + DAMAGE_OF_LOST_SOCK * lostSocks;
        }

        static int removedAt(int halves) {
            int removed = 0;
            for (int stain = 0; stain < STAIN_KINDS; stain++) {
                if (halves >= STAIN_HALVES + STAIN_STEP_HALVES * stain) {
                    removed |= 1 << stain;
                }
            }
            return removed;
        }

        static void removeStains(State state, int machine) {
            int removed = removedAt(state.halves[machine]);
            for (int garment = 0; garment < state.garmentCount; garment++) {
                if (state.isIn(garment, machine)) {
                    state.stains[garment] &= ~removed;
                }
            }
        }

        /** Answers how many garments get a stain that they did not have. */
        static int letColoursRun(State state, int machine) {
            if (state.halves[machine] < COLOURS_RUN_HALVES) {
                return 0;
            }
            int stain = 1 << state.greatestColourIn(machine);
            int stained = 0;
            for (int garment = 0; garment < state.garmentCount; garment++) {
                if (state.isIn(garment, machine) && state.colours[garment] == 0) {
                    stained += (state.stains[garment] & stain) == 0 ? 1 : 0;
                    state.stains[garment] |= stain;
                }
            }
            return stained;
        }

        static void countWash(State state, int machine) {
            for (int garment = 0; garment < state.garmentCount; garment++) {
                if (state.isIn(garment, machine)) {
                    state.washes[garment]++;
                }
            }
        }

        /** Answers the number of socks that are lost. */
        static int loseSocks(State state, int machine) {
            // Asked once: a lost sock makes the load no longer odd.
            boolean odd = state.countIn(machine) % 2 == 1;
            int lostSocks = 0;
            for (int garment = 0; garment < state.garmentCount; garment++) {
                if (odd && state.isIn(garment, machine) && isCleanSingleSock(state, garment)) {
                    state.places[garment] = LOST;
                    lostSocks++;
                }
            }
            return lostSocks;
        }

        static boolean isCleanSingleSock(State state, int garment) {
            if (!state.socks[garment] || state.stains[garment] != 0) {
                return false;
            }
            for (int other = 0; other < state.garmentCount; other++) {
                if (other != garment && state.socks[other]
                        && state.places[other] == state.places[garment]
                        && state.colours[other] == state.colours[garment]) {
                    return false;
                }
            }
            return true;
        }

        static void returnToBags(State state, int machine) {
            for (int garment = 0; garment < state.garmentCount; garment++) {
                if (state.isIn(garment, machine)) {
                    state.places[garment] = BAG;
                }
            }
        }

        /** The damage of a load at a temperature, of which nothing is washed. */
        static int damageFromSets(State state, int machine, int halves) {
            int left = ALL_STAINS & ~removedAt(halves);
            int running = halves >= COLOURS_RUN_HALVES ? 1 << state.greatestColourIn(machine) : 0;
            int losable = state.countIn(machine) % 2 == 1 ? singleSockColours(state, machine) : 0;
            int sum = 0;
            for (int garment = 0; garment < state.garmentCount; garment++) {
                if (state.isIn(garment, machine)) {
                    int kept = state.stains[garment] & left;
                    int got = state.colours[garment] == 0 ? running & ~kept : 0;
                    sum += Integer.bitCount(kept) + DAMAGE_OF_RUN_COLOUR * Integer.bitCount(got);
                    boolean clean = (kept | got) == 0;
                    boolean single = (losable >> state.colours[garment] & 1) == 1;
                    sum += state.socks[garment] && clean && single ? DAMAGE_OF_LOST_SOCK : 0;
                }
            }
            return sum;
        }

        /** The colours that exactly one sock in the machine has. */
        static int singleSockColours(State state, int machine) {
            int once = 0;
            int again = 0;
            for (int garment = 0; garment < state.garmentCount; garment++) {
                if (state.isIn(garment, machine) && state.socks[garment]) {
                    int colourBit = 1 << state.colours[garment];
                    again |= once & colourBit;
                    once |= colourBit;
                }
            }
            return once & ~again;
        }

        /**
         * Looks only at the lowest temperature and at those at which a stain begins to leave or
         * colours begin to run: between them, and above the last, the damage does not change.
         */
        static int leastHarmfulHalves(State state, int machine) {
            int best = LEAST_HALVES;
            int least = damageFromSets(state, machine, best);
            for (int halves = STAIN_HALVES; halves <= COLOURS_RUN_HALVES; halves += STAIN_STEP_HALVES) {
                int harm = damageFromSets(state, machine, halves);
                if (harm < least) {
                    least = harm;
                    best = halves;
                }
            }
            return best;
        }
    }

    /** The pairs of socks in the bags. */
    private static final class Pairs {
        /** Forms the pairs of the sock's colour until the sock is in one; -1 if it never is. */
        static int otherSock(State state, int sock) {
            int waiting = -1;
            for (int next = 0; next < state.garmentCount; next++) {
                if (couldPair(state, next, sock)) {
                    if (waiting < 0) {
                        waiting = next;
                    } else if (waiting == sock) {
                        return next;
                    } else if (next == sock) {
                        return waiting;
                    } else {
                        waiting = -1;
                    }
                }
            }
            return -1;
        }

        static boolean couldPair(State state, int garment, int sock) {
            return state.socks[garment] && state.isInBagOf(garment, state.clients[sock])
                    && state.colours[garment] == state.colours[sock];
        }

        static int formed(State state, int client) {
            int pairs = 0;
            for (int garment = 0; garment < state.garmentCount; garment++) {
                if (state.socks[garment] && state.isInBagOf(garment, client)
                        && otherSock(state, garment) > garment) {
                    pairs++;
                }
            }
            return pairs;
        }

        static int byParity(State state, int client) {
            int socks = 0;
            int oddColours = 0;
            for (int garment = 0; garment < state.garmentCount; garment++) {
                if (state.socks[garment] && state.isInBagOf(garment, client)) {
                    socks++;
                    oddColours ^= 1 << state.colours[garment];
                }
            }
            return (socks - Integer.bitCount(oddColours)) / 2;
        }
    }

    /**
     * The states before the latest recorded calls, in a ring with a row to spare: so a state can be
     * prepared, and dropped again, while all calls that can be undone stay.
     */
    private static final class History {
        final State[] rows = new State[UNDO_LIMIT + 1];
        int newest = 0;
        int count = 0;

        History() {
            for (int row = 0; row < rows.length; row++) {
                rows[row] = new State();
            }
        }

        void remember(State state) {
            prepare(state);
            keepPrepared();
        }

        void prepare(State state) {
            rows[spareRow()].copyFrom(state);
        }

        void keepPrepared() {
            newest = spareRow();
            count = Math.min(count + 1, UNDO_LIMIT);
        }

        void takePreparedBack(State state) {
            state.copyFrom(rows[spareRow()]);
        }

        void stepBack(State state) {
            state.copyFrom(rows[newest]);
            newest = newest == 0 ? UNDO_LIMIT : newest - 1;
            count--;
        }

        void forget() {
            count = 0;
        }

        int spareRow() {
            return newest == UNDO_LIMIT ? 0 : newest + 1;
        }
    }

    /** The commands: a word, and the most digits that each of its numbers has, 0 for no number. */
    private enum Keyword {
        SOCK("sock", 1, 1, 3),
        SHIRT("shirt", 1, 1, 3),
        LOAD("load", 2, 1, 0),
        OUT("out", 2, 0, 0),
        HEAT("heat", 1, 2, 0),
        RUN("run", 1, 0, 0);

        final String word;
        final int firstDigits;
        final int secondDigits;
        final int thirdDigits;

        Keyword(String word, int firstDigits, int secondDigits, int thirdDigits) {
            this.word = word;
            this.firstDigits = firstDigits;
            this.secondDigits = secondDigits;
            this.thirdDigits = thirdDigits;
        }
    }

    /** A command as it was read; a number that it does not have is 0. */
    private static final class Command {
        Keyword keyword = Keyword.RUN;
        int first = 0;
        int second = 0;
        int third = 0;
    }

    /** The input buffer, and the commands of the text that was in it. */
    private static final class CommandText {
        final char[] characters = new char[INPUT_LIMIT];
        int length = 0;
        int position = 0;
        final Command[] commands = new Command[INPUT_LIMIT / SHORTEST_COMMAND];
        int commandCount = 0;

        CommandText() {
            for (int row = 0; row < commands.length; row++) {
                commands[row] = new Command();
            }
        }

        /** Answers the new length. */
        int append(char character) {
            if (length < characters.length) {
                characters[length] = character;
                length++;
            }
            return length;
        }

        void empty() {
            length = 0;
        }

        /**
         * Answers whether the text is well-formed. If it is not, the position stays at the first
         * character that cannot go on, or at the text's length.
         */
        boolean parse() {
            position = 0;
            commandCount = 0;
            for (int row = 0; row < commands.length; row++) {
                if (!readCommand(commands[row])) {
                    return false;
                }
                commandCount++;
                if (!accept(';')) {
                    return position == length;
                }
            }
            return false;
        }

        boolean readCommand(Command command) {
            Keyword keyword = readKeyword();
            if (keyword == null) {
                return false;
            }
            command.keyword = keyword;
            command.first = readNumber(keyword.firstDigits);
            if (command.first < 0) {
                return false;
            }
            command.second = readNumber(keyword.secondDigits);
            if (command.second < 0) {
                return false;
            }
            command.third = readNumber(keyword.thirdDigits);
            return command.third >= 0;
        }

        /** Answers null, and stays behind the longest beginning of a keyword, if there is none. */
        Keyword readKeyword() {
            int longest = 0;
            for (int row = 0; row < KEYWORDS.length; row++) {
                Keyword keyword = KEYWORDS[row];
                int same = sameLetters(keyword.word);
                if (same == keyword.word.length()) {
                    position += same;
                    return keyword;
                }
                longest = Math.max(longest, same);
            }
            position += longest;
            return null;
        }

        int sameLetters(String word) {
            int same = 0;
            while (same < word.length() && position + same < length
                    && characters[position + same] == word.charAt(same)) {
                same++;
            }
            return same;
        }

        /** Reads a blank and a number; answers -1 if they do not stand there. */
        int readNumber(int mostDigits) {
            if (mostDigits == 0) {
                return 0;
            }
            if (!accept(' ') || !isAtDigit()) {
                return -1;
            }
            int number = 0;
            for (int digit = 0; digit < mostDigits && isAtDigit(); digit++) {
                number = 10 * number + (characters[position] - '0');
                position++;
            }
            return number;
        }

        boolean isAtDigit() {
            return position < length && characters[position] >= '0' && characters[position] <= '9';
        }

        boolean accept(char character) {
            if (position < length && characters[position] == character) {
                position++;
                return true;
            }
            return false;
        }
    }

    /** The output, with room for the fullest bag. */
    private static final class Output {
        final char[] characters = new char[OUTPUT_LIMIT];
        int length = 0;

        void empty() {
            length = 0;
        }

        void append(char character) {
            if (length < characters.length) {
                characters[length] = character;
                length++;
            }
        }
    }
}
