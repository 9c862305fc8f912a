import java.util.ArrayList;
import java.util.List;
import java.util.NoSuchElementException;
import java.util.regex.Matcher;
import java.util.regex.Pattern;

/**
 * Compares long runs of calls with a second, plain writing of the document: objects and lists,
 * a regular expression for the texts, and every temperature tried for the best one.
 */
public final class ModelTest {
    private static final int RUNS = 8000;

    // What an object answers after as many calls is free.
    private static final int CALLS = 512;

    // A text that overfills the input is the dearest step.
    private static final int DEAREST_STEP = 63;

    private static final class Garment {
        int client;
        boolean sock;
        int colour;
        int stains;
        char place = 'b';
        int washes;

        Garment copy() {
            Garment copy = new Garment();
            copy.client = client;
            copy.sock = sock;
            copy.colour = colour;
            copy.stains = stains;
            copy.place = place;
            copy.washes = washes;
            return copy;
        }
    }

    private static final class World {
        List<Garment> garments = new ArrayList<>();
        float[] heat = {40f, 40f};
        float[] paid = new float[4];
        int runs;

        World copy() {
            World copy = new World();
            for (Garment garment : garments) {
                copy.garments.add(garment.copy());
            }
            copy.heat = heat.clone();
            copy.paid = paid.clone();
            copy.runs = runs;
            return copy;
        }

        Garment garment(int index) {
            if (index < 0 || index >= garments.size()) {
                throw new IndexOutOfBoundsException();
            }
            return garments.get(index);
        }

        List<Garment> at(char place) {
            List<Garment> found = new ArrayList<>();
            for (Garment garment : garments) {
                if (garment.place == place) {
                    found.add(garment);
                }
            }
            return found;
        }

        List<Garment> in(int machine) {
            below(machine, 2);
            return at((char) ('0' + machine));
        }

        List<Garment> bag(int client) {
            below(client, 4);
            List<Garment> found = at('b');
            found.removeIf(garment -> garment.client != client);
            return found;
        }

        int mask(List<Garment> chosen) {
            int mask = 0;
            for (Garment garment : chosen) {
                mask += 1 << garments.indexOf(garment);
            }
            return mask;
        }

        int bring(int client, boolean sock, int colour, int stains) {
            below(client, 4);
            if (colour < 0 || colour > 7 || stains < 0 || stains > 255) {
                throw new IllegalArgumentException();
            }
            if (garments.size() == 16) {
                throw new IllegalStateException();
            }
            Garment garment = new Garment();
            garment.client = client;
            garment.sock = sock;
            garment.colour = colour;
            garment.stains = stains;
            garments.add(garment);
            return garments.size() - 1;
        }

        int load(int index, int machine) {
            Garment garment = garment(index);
            int before = in(machine).size();
            if (garment.place != 'b') {
                throw new UnsupportedOperationException();
            }
            if (before == 5) {
                throw new IllegalStateException();
            }
            garment.place = (char) ('0' + machine);
            return before + 1;
        }

        int takeOut(int index) {
            Garment garment = garment(index);
            if (garment.place == 'b' || garment.place == 'x') {
                throw new UnsupportedOperationException();
            }
            int machine = garment.place - '0';
            garment.place = 'b';
            return machine;
        }

        float setTemperature(int machine, int halves) {
            below(machine, 2);
            if (halves < 40 || halves > 180) {
                throw new IllegalArgumentException();
            }
            float before = heat[machine];
            heat[machine] = halves / 2f;
            return before;
        }

        float price(int machine, int client) {
            List<Garment> load = in(machine);
            below(client, 4);
            boolean[] pays = new boolean[4];
            int own = 0;
            for (Garment garment : load) {
                pays[garment.client] = true;
                own += garment.client == client ? 1 : 0;
            }
            int payers = 0;
            for (boolean one : pays) {
                payers += one ? 1 : 0;
            }
            return own == 0 ? 0f : (float) (1.25 * own) + (float) (heat[machine] * 0.125 / payers);
        }

        /** Answers the number of lost socks, and the damage times 100. */
        int run(int machine) {
            List<Garment> load = in(machine);
            if (load.isEmpty()) {
                throw new IllegalStateException();
            }
            for (int client = 0; client < 4; client++) {
                paid[client] += price(machine, client);
            }
            runs++;
            int damage = 0;
            int greatest = 0;
            for (Garment garment : load) {
                garment.washes++;
                greatest = Math.max(greatest, garment.colour);
                for (int k = 0; k < 8; k++) {
                    if (heat[machine] >= 25 + 5 * k && (garment.stains >> k) % 2 == 1) {
                        garment.stains -= 1 << k;
                    }
                }
                damage += Integer.bitCount(garment.stains);
            }
            for (Garment garment : load) {
                if (heat[machine] >= 60 && garment.colour == 0) {
                    damage += (garment.stains >> greatest) % 2 == 0 ? 3 : 0;
                    garment.stains |= 1 << greatest;
                }
            }
            List<Garment> lost = new ArrayList<>();
            for (Garment garment : load) {
                boolean single = garment.sock && garment.stains == 0 && load.size() % 2 == 1;
                for (Garment other : load) {
                    single &= other == garment || !other.sock || other.colour != garment.colour;
                }
                if (single) {
                    lost.add(garment);
                }
            }
            for (Garment garment : load) {
                garment.place = lost.contains(garment) ? 'x' : 'b';
            }
            return lost.size() + 100 * (damage + 10 * lost.size());
        }

        int damage(int machine) {
            return in(machine).isEmpty() ? 0 : copy().run(machine) / 100;
        }

        int bestTemperature(int machine) {
            if (in(machine).isEmpty()) {
                throw new IllegalStateException();
            }
            int best = 0;
            int least = Integer.MAX_VALUE;
            for (int halves = 40; halves <= 180; halves++) {
                World copy = copy();
                copy.setTemperature(machine, halves);
                if (copy.damage(machine) < least) {
                    least = copy.damage(machine);
                    best = halves;
                }
            }
            return best;
        }

        int partner(int index) {
            Garment sock = garment(index);
            if (!sock.sock) {
                throw new UnsupportedOperationException();
            }
            List<Garment> same = bag(sock.client);
            same.removeIf(other -> !other.sock || other.colour != sock.colour);
            int place = same.indexOf(sock);
            int other = place ^ 1;
            if (place < 0 || other >= same.size()) {
                throw new NoSuchElementException();
            }
            return garments.indexOf(same.get(other));
        }

        int pairCount(int client) {
            int[] numbers = new int[8];
            for (Garment garment : bag(client)) {
                numbers[garment.colour] += garment.sock ? 1 : 0;
            }
            int pairs = 0;
            for (int number : numbers) {
                pairs += number / 2;
            }
            return pairs;
        }

        List<Garment> notLost() {
            List<Garment> found = new ArrayList<>(garments);
            found.removeAll(at('x'));
            return found;
        }

        int dirtiest(int rank) {
            List<Garment> sorted = notLost();
            sorted.sort((a, b) -> Integer.bitCount(b.stains) - Integer.bitCount(a.stains));
            if (rank < 0 || rank >= sorted.size()) {
                throw new NoSuchElementException();
            }
            return garments.indexOf(sorted.get(rank));
        }

        int spender(int rank) {
            List<Integer> sorted = new ArrayList<>(List.of(0, 1, 2, 3));
            sorted.sort((a, b) -> Float.compare(paid[b], paid[a]));
            if (rank < 0 || rank >= 4) {
                throw new NoSuchElementException();
            }
            return sorted.get(rank);
        }

        double meanStains() {
            int sum = 0;
            for (Garment garment : notLost()) {
                sum += Integer.bitCount(garment.stains);
            }
            if (notLost().isEmpty()) {
                throw new ArithmeticException();
            }
            return (double) sum / notLost().size();
        }

        float lostShare() {
            if (garments.isEmpty()) {
                throw new ArithmeticException();
            }
            return (float) at('x').size() / garments.size();
        }

        long packed(int index) {
            Garment garment = garment(index);
            long place = "b01x".indexOf(garment.place);
            long value = garment.washes;
            value = value * 4 + place;
            value = value * 2 + (garment.sock ? 1 : 0);
            value = value * 4 + garment.client;
            value = value * 8 + garment.colour;
            return value * 256 + garment.stains;
        }

        String bagText(int client) {
            StringBuilder text = new StringBuilder();
            for (Garment garment : bag(client)) {
                text.append(text.length() == 0 ? "" : " ").append(garment.sock ? "s" : "g").append(garment.colour);
                text.append("*".repeat(Integer.bitCount(garment.stains)));
            }
            return text.toString();
        }

        int command(String command) {
            String[] words = command.split(" ");
            int[] n = new int[words.length];
            for (int i = 1; i < words.length; i++) {
                n[i] = Integer.parseInt(words[i]);
            }
            switch (words[0]) {
                case "sock": return bring(n[1], true, n[2], n[3]);
                case "shirt": return bring(n[1], false, n[2], n[3]);
                case "load": return load(n[1], n[2]);
                case "out": return takeOut(n[1]);
                case "heat": return (int) setTemperature(n[1], 2 * n[2]);
                default: return run(n[1]);
            }
        }
    }

    private static void below(int number, int limit) {
        if (number < 0 || number >= limit) {
            throw new IndexOutOfBoundsException();
        }
    }

    private static final String ONE = "((sock|shirt) [0-9] [0-9] [0-9]{1,3}|load [0-9]{1,2} [0-9]"
            + "|out [0-9]{1,2}|heat [0-9] [0-9]{1,2}|run [0-9])";
    private static final Pattern TEXT = Pattern.compile(ONE + "(;" + ONE + ")*");

    private static final class Model {
        World world = new World();
        World saved;
        final List<World> past = new ArrayList<>();
        String input = "";
        String output = "";
        int errorPosition = -1;
        int failedCommand = -1;

        void recorded(World before) {
            past.add(before);
            if (past.size() > 8) {
                past.remove(0);
            }
        }

        int runCommands() {
            String text = input;
            input = "";
            if (!TEXT.matcher(text).matches()) {
                int good = 0;
                while (good < text.length() && canGoOn(text.substring(0, good + 1))) {
                    good++;
                }
                errorPosition = good;
                throw new IllegalArgumentException();
            }
            World before = world.copy();
            String[] commands = text.split(";");
            for (int i = 0; i < commands.length; i++) {
                try {
                    world.command(commands[i]);
                } catch (RuntimeException e) {
                    world = before;
                    failedCommand = i;
                    throw new UnsupportedOperationException();
                }
            }
            recorded(before);
            return commands.length;
        }

        private static boolean canGoOn(String start) {
            Matcher matcher = TEXT.matcher(start);
            return matcher.matches() || matcher.hitEnd();
        }
    }

    private static long seed = 20261119;

    // The calls that the object of this run has had.
    private static int calls = 0;

    private static int random(int bound) {
        seed = seed * 6364136223846793005L + 1442695040888963407L;
        return (int) ((seed >>> 33) % bound);
    }

    /** Mostly a number below the limit, now and then one around it or far away. */
    private static int number(int limit) {
        int kind = random(40);
        if (kind == 0) {
            return new int[] {-1, limit, limit + 1, -limit, Integer.MIN_VALUE, Integer.MAX_VALUE}[random(6)];
        }
        return random(limit);
    }

    private static int halves() {
        int kind = random(20);
        if (kind == 0) {
            return new int[] {39, 181, 0, -40, Integer.MIN_VALUE, Integer.MAX_VALUE}[random(6)];
        }
        return kind < 10 ? 50 + 10 * random(8) - random(2) : 40 + random(141);
    }

    private static int stainSet() {
        int kind = random(4);
        return kind == 0 ? 0 : kind == 1 ? 1 << random(8) : number(256);
    }

    private static String text(int garments) {
        StringBuilder text = new StringBuilder();
        int commands = 1 + random(5);
        for (int i = 0; i < commands; i++) {
            text.append(i == 0 ? "" : ";").append(command(Math.max(1, garments)));
        }
        if (random(3) == 0 && text.length() > 0) {
            int at = random(text.length());
            String signs = " ;0123456789sockhirtladuen\u0000\uFFFF/:S";
            char sign = signs.charAt(random(signs.length()));
            switch (random(4)) {
                case 0: text.setCharAt(at, sign); break;
                case 1: text.insert(at, sign); break;
                case 2: text.deleteCharAt(at); break;
                default: text.setLength(at); break;
            }
        }
        if (text.length() > 60) {
            int semicolon = text.lastIndexOf(";", 60);
            text.setLength(semicolon > 0 && random(4) > 0 ? semicolon : 60);
        }
        return text.toString();
    }

    private static String command(int garments) {
        int machine = random(30) == 0 ? random(10) : random(2);
        int garment = random(30) == 0 ? random(100) : random(garments);
        String shown = garment < 10 && random(4) == 0 ? "0" + garment : "" + garment;
        switch (random(12)) {
            case 0: return "sock " + random(4) + " " + random(8) + " " + random(256);
            case 1: return "shirt " + random(5) + " " + random(9) + " " + random(1000);
            case 2: return "out " + shown;
            case 3: return "heat " + machine + " " + random(100);
            case 4: return "heat " + machine + " " + (20 + random(71));
            case 5: case 6: return "run " + machine;
            default: return "load " + shown + " " + machine;
        }
    }

    private interface Answer {
        Object get();
    }

    private static Object answer(Answer call) {
        try {
            return call.get();
        } catch (RuntimeException e) {
            return e.getClass().getSimpleName();
        }
    }

    /** Each answer that is got is that of one call. */
    private static void both(String call, Answer got, Answer due) {
        calls++;
        Object dueAnswer = answer(due);
        Object gotAnswer = answer(got);
        Check.same(call, gotAnswer, dueAnswer);
    }

    private static void change(Model m, String call, Answer got, Answer due) {
        World before = m.world.copy();
        both(call, got, () -> {
            Object answered = due.get();
            m.recorded(before);
            return answered;
        });
    }

    private static void oneChange(LaundryService s, Model m) {
        int garment = number(Math.max(1, m.world.garments.size()));
        int machine = number(2);
        switch (random(10)) {
            case 0: case 1:
                int client = number(4);
                boolean sock = random(3) > 0;
                int colour = number(random(2) == 0 ? 3 : 8);
                int stains = stainSet();
                change(m, "bring", () -> s.bring(client, sock, colour, stains),
                        () -> m.world.bring(client, sock, colour, stains));
                break;
            case 2: case 3: case 4: case 5:
                change(m, "load", () -> s.load(garment, machine), () -> m.world.load(garment, machine));
                break;
            case 6:
                change(m, "takeOut", () -> s.takeOut(garment), () -> m.world.takeOut(garment));
                break;
            case 7: case 8:
                int halves = halves();
                change(m, "setTemperature", () -> s.setTemperature(machine, halves),
                        () -> m.world.setTemperature(machine, halves));
                break;
            default:
                change(m, "run", () -> s.run(machine), () -> m.world.run(machine) % 100);
                break;
        }
    }

    private static void pastOrSaved(LaundryService s, Model m) {
        switch (random(6)) {
            case 0:
                both("save", () -> s.save(), () -> {
                    m.saved = m.world.copy();
                    return m.world.garments.size();
                });
                break;
            case 1:
                both("restore", () -> s.restore(), () -> {
                    if (m.saved == null) {
                        throw new IllegalStateException();
                    }
                    m.world = m.saved.copy();
                    m.past.clear();
                    return m.world.garments.size();
                });
                break;
            default:
                both("undo", () -> s.undo(), () -> {
                    if (m.past.isEmpty()) {
                        throw new IllegalStateException();
                    }
                    m.world = m.past.remove(m.past.size() - 1);
                    return m.past.size();
                });
                break;
        }
    }

    private static void texts(LaundryService s, Model m) {
        String text = text(m.world.garments.size());
        int fed = random(20) == 0 ? 62 : text.length();
        for (int i = 0; i < fed; i++) {
            char sign = i < text.length() ? text.charAt(i) : ';';
            both("feed", () -> s.feed(sign), () -> {
                if (m.input.length() == 60) {
                    throw new IllegalStateException();
                }
                m.input += sign;
                return m.input.length();
            });
        }
        both("runCommands of '" + m.input + "'", () -> s.runCommands(), () -> m.runCommands());
    }

    private static int kept(int number) {
        if (number < 0) {
            throw new NoSuchElementException();
        }
        return number;
    }

    private static void askGarment(LaundryService s, World w, int garment) {
        both("client", () -> s.client(garment), () -> w.garment(garment).client);
        both("isSock", () -> s.isSock(garment), () -> w.garment(garment).sock);
        both("colour", () -> s.colour(garment), () -> w.garment(garment).colour);
        both("stains", () -> s.stains(garment), () -> w.garment(garment).stains);
        both("stainCount", () -> s.stainCount(garment), () -> Integer.bitCount(w.garment(garment).stains));
        both("place", () -> s.place(garment), () -> w.garment(garment).place);
        both("washes", () -> s.washes(garment), () -> w.garment(garment).washes);
        both("partner", () -> s.partner(garment), () -> w.partner(garment));
        both("packed", () -> s.packed(garment), () -> w.packed(garment));
        both("dirtiest", () -> s.dirtiest(garment), () -> w.dirtiest(garment));
    }

    private static void askClient(LaundryService s, Model m, int client) {
        World w = m.world;
        both("pairCount", () -> s.pairCount(client), () -> w.pairCount(client));
        both("pairCountByParity", () -> s.pairCountByParity(client), () -> w.pairCount(client));
        both("inBag", () -> s.inBag(client), () -> w.mask(w.bag(client)));
        both("spender", () -> s.spender(client), () -> w.spender(client));
        both("paidBits", () -> s.paidBits(client), () -> {
            below(client, 4);
            return Float.floatToIntBits(w.paid[client]);
        });
        both("paid", () -> s.paid(client), () -> {
            below(client, 4);
            return w.paid[client];
        });
        both("writeBag", () -> s.writeBag(client), () -> {
            m.output = w.bagText(client);
            return m.output.length();
        });
        int index = random(4) == 0 ? m.output.length() : number(Math.max(1, m.output.length()));
        both("outputChar", () -> s.outputChar(index), () -> {
            below(index, m.output.length());
            return m.output.charAt(index);
        });
    }

    private static void askMachine(LaundryService s, World w, int machine) {
        both("inMachine", () -> s.inMachine(machine), () -> w.mask(w.in(machine)));
        both("damage", () -> s.damage(machine), () -> w.damage(machine));
        both("damageByMasks", () -> s.damageByMasks(machine), () -> w.damage(machine));
        both("temperature", () -> s.temperature(machine), () -> {
            below(machine, 2);
            return w.heat[machine];
        });
        both("temperatureBits", () -> s.temperatureBits(machine), () -> {
            below(machine, 2);
            return Float.floatToIntBits(w.heat[machine]);
        });
        both("commonStains", () -> s.commonStains(machine), () -> {
            int common = 255;
            for (Garment garment : w.in(machine)) {
                common &= garment.stains;
            }
            return common;
        });
        both("coloursIn", () -> s.coloursIn(machine), () -> {
            int colours = 0;
            for (Garment garment : w.in(machine)) {
                colours |= 1 << garment.colour;
            }
            return colours;
        });
        for (int price = 0; price < 4; price++) {
            int payer = number(4);
            both("price", () -> s.price(machine, payer), () -> w.price(machine, payer));
        }
        // The model tries every temperature, which is slow.
        if (random(20) == 0) {
            both("bestTemperature", () -> s.bestTemperature(machine), () -> w.bestTemperature(machine));
        }
    }

    private static void ask(LaundryService s, Model m) {
        switch (random(4)) {
            case 0: askGarment(s, m.world, number(Math.max(1, m.world.garments.size()))); break;
            case 1: askClient(s, m, number(4)); break;
            case 2: askMachine(s, m.world, number(2)); break;
            default: askService(s, m); break;
        }
    }

    private static void askService(LaundryService s, Model m) {
        World w = m.world;
        both("garmentCount", () -> s.garmentCount(), () -> w.garments.size());
        both("lost", () -> s.lost(), () -> w.mask(w.at('x')));
        both("runCount", () -> s.runCount(), () -> w.runs);
        both("meanStains", () -> s.meanStains(), () -> w.meanStains());
        both("lostShare", () -> s.lostShare(), () -> w.lostShare());
        both("isConsistent", () -> s.isConsistent(), () -> true);
        both("undoCount", () -> s.undoCount(), () -> m.past.size());
        both("errorPosition", () -> s.errorPosition(), () -> kept(m.errorPosition));
        both("failedCommand", () -> s.failedCommand(), () -> kept(m.failedCommand));
    }

    private static void oneStep(LaundryService s, Model m) {
        int kind = random(40);
        if (kind == 0) {
            texts(s, m);
        } else if (kind < 5) {
            pastOrSaved(s, m);
        } else if (kind < 10) {
            ask(s, m);
        } else {
            oneChange(s, m);
        }
    }

    public static void main(String[] args) {
        for (int run = 0; run < RUNS; run++) {
            LaundryService s = new LaundryService();
            Model m = new Model();
            calls = 0;
            while (calls <= CALLS - DEAREST_STEP) {
                oneStep(s, m);
            }
            while (calls < CALLS) {
                oneChange(s, m);
            }
        }
        Check.end();
    }
}
