import java.util.ArrayList;
import java.util.Arrays;
import java.util.List;

/** A second hive, made apart from the class, from section 2 and the promises alone; it is told what ModelText has read. */
final class Model {

    private static final class Bee {
        String name;
        int honey;
        boolean awake = true;
        Pact blocker;
        int log;
    }

    private static final class Part {
        Bee bee;
        int change;
        int vote;
        boolean heard;
    }

    private static final class Pact {
        String name;
        int state;
        int begunOn;
        final List<Part> parts = new ArrayList<>();
    }

    private final List<String> tokens;
    private final List<Bee> bees = new ArrayList<>();
    private final List<Pact> pacts = new ArrayList<>();
    private final List<List<String>> orders = new ArrayList<>();
    private int day;
    private int done;
    private boolean queen = true;
    private List<String> test;
    private int at;

    /** The tokens have to be those of a hive without error. */
    Model(List<String> tokens) {
        this.tokens = tokens;
        int from = 0;
        for (int i = 0; i < tokens.size(); i++) {
            if (tokens.get(i).equals(";")) {
                learn(tokens.subList(from, i));
                from = i + 1;
            }
        }
    }

    private void learn(List<String> line) {
        if (line.get(0).equals("drone")) {
            Bee bee = new Bee();
            bee.name = line.get(1);
            bee.honey = Integer.parseInt(line.get(3));
            bees.add(bee);
        } else if (line.get(0).equals("deal")) {
            Pact pact = new Pact();
            pact.name = line.get(1);
            for (int i = 3; i < line.size(); i += 4) {
                Part part = new Part();
                part.bee = bee(line.get(i));
                part.change = Integer.parseInt(line.get(i + 2)) * (line.get(i + 1).equals("gets") ? 1 : -1);
                pact.parts.add(part);
            }
            pacts.add(pact);
        } else {
            orders.add(line);
        }
    }

    private Bee bee(String name) {
        return bees.stream().filter(b -> b.name.equals(name)).findFirst().orElseThrow();
    }

    private Pact pact(String name) {
        return pacts.stream().filter(p -> p.name.equals(name)).findFirst().orElseThrow();
    }

    private Model copy() {
        Model other = new Model(tokens);
        for (int i = 0; i < bees.size(); i++) {
            Bee from = bees.get(i);
            Bee to = other.bees.get(i);
            to.honey = from.honey;
            to.awake = from.awake;
            to.log = from.log;
            to.blocker = from.blocker == null ? null : other.pact(from.blocker.name);
        }
        for (int i = 0; i < pacts.size(); i++) {
            other.pacts.get(i).state = pacts.get(i).state;
            other.pacts.get(i).begunOn = pacts.get(i).begunOn;
            for (int j = 0; j < pacts.get(i).parts.size(); j++) {
                other.pacts.get(i).parts.get(j).vote = pacts.get(i).parts.get(j).vote;
                other.pacts.get(i).parts.get(j).heard = pacts.get(i).parts.get(j).heard;
            }
        }
        other.day = day;
        other.done = done;
        other.queen = queen;
        return other;
    }

    // ---- what can be done

    private boolean begins(Pact pact) {
        boolean over = pact.state >= 2 && pact.parts.stream().allMatch(p -> p.heard);
        if (!queen || pact.state != 0 && !over) {
            return false;
        }
        pact.state = 1;
        pact.begunOn = day;
        for (Part part : pact.parts) {
            part.vote = 0;
            part.heard = false;
        }
        return true;
    }

    private boolean turns(Bee bee, boolean awake) {
        boolean can = bee.awake != awake;
        bee.awake = awake;
        return can;
    }

    private boolean turnsQueen(boolean awake) {
        if (queen == awake) {
            return false;
        }
        queen = awake;
        if (awake) {
            pacts.stream().filter(p -> p.state == 1).forEach(p -> p.state = 3);
        }
        return true;
    }

    private static boolean agrees(Part part) {
        int left = part.bee.honey + part.change;
        return part.bee.blocker == null && left >= 0 && left <= 99;
    }

    private int aDay() {
        for (List<String> order : orders) {
            if ((order.size() == 2 || holds(order.subList(3, order.size()))) && isCarriedOut(order)) {
                done++;
            }
        }
        if (queen) {
            vote();
            decide();
        }
        int heard = 0;
        for (Pact pact : pacts) {
            for (Part part : pact.parts) {
                if (pact.state >= 2 && part.bee.awake && !part.heard && (queen || pact.parts.stream()
                        .anyMatch(p -> p != part && p.bee.awake && p.heard))) {
                    hear(pact, part);
                    heard++;
                }
            }
        }
        day++;
        return heard;
    }

    private boolean isCarriedOut(List<String> order) {
        if (order.get(0).equals("begin")) {
            return begins(pact(order.get(1)));
        }
        boolean awake = order.get(0).equals("wake");
        return order.get(1).equals("queen") ? turnsQueen(awake) : turns(bee(order.get(1)), awake);
    }

    private void vote() {
        for (Pact pact : pacts) {
            for (Part part : pact.parts) {
                if (pact.state == 1 && part.vote == 0 && part.bee.awake) {
                    part.vote = agrees(part) ? 1 : 2;
                    if (part.vote == 1) {
                        part.bee.blocker = pact;
                        part.bee.log++;
                    }
                }
            }
        }
    }

    private void decide() {
        for (Pact pact : pacts) {
            if (pact.state == 1) {
                boolean no = pact.parts.stream().anyMatch(p -> p.vote == 2);
                boolean yes = pact.parts.stream().allMatch(p -> p.vote == 1);
                pact.state = no ? 3 : yes ? 2 : day - pact.begunOn >= 3 ? 3 : 1;
            }
        }
    }

    private static void hear(Pact pact, Part part) {
        part.heard = true;
        part.bee.log++;
        part.bee.honey += pact.state == 2 ? part.change : 0;
        part.bee.blocker = part.bee.blocker == pact ? null : part.bee.blocker;
    }

    // ---- tests

    private boolean holds(List<String> words) {
        test = words;
        at = 0;
        return aTest();
    }

    private boolean taken(String word) {
        boolean here = at < test.size() && test.get(at).equals(word);
        at += here ? 1 : 0;
        return here;
    }

    private boolean aTest() {
        boolean so = aBoth();
        while (taken("or")) {
            so |= aBoth();
        }
        return so;
    }

    private boolean aBoth() {
        boolean so = aSingle();
        while (taken("and")) {
            so &= aSingle();
        }
        return so;
    }

    private boolean aSingle() {
        if (taken("not")) {
            return !aSingle();
        }
        if (taken("[")) {
            boolean so = aTest();
            at++;
            return so;
        }
        if (taken("awake")) {
            return taken("queen") ? queen : bee(test.get(at++)).awake;
        }
        int left = aSum();
        String sign = test.get(at++);
        int order = Integer.compare(left, aSum());
        return order == 0 ? sign.contains("=") : sign.startsWith(order < 0 ? "<" : ">");
    }

    private int aSum() {
        int sum = aProduct();
        while (at < test.size() && List.of("+", "-").contains(test.get(at))) {
            boolean plus = test.get(at++).equals("+");
            int right = aProduct();
            sum = plus ? sum + right : sum - right;
        }
        return sum;
    }

    private int aProduct() {
        int product = aValue();
        while (at < test.size() && List.of("*", "/").contains(test.get(at))) {
            boolean times = test.get(at++).equals("*");
            long right = aValue();
            product = (int) (times ? product * right : right == 0 ? 0 : product / right);
        }
        return product;
    }

    private int aValue() {
        String word = test.get(at++);
        switch (word) {
            case "day": return day;
            case "done": return done;
            case "blocked": return blocked();
            case "-": return -aValue();
            case "honey": at += 2; return bee(test.get(at - 1)).honey;
            case "waits": at += 2; return waits(pact(test.get(at - 1)));
            case "(":
                int inner = aSum();
                at++;
                return inner;
            case "min": case "max":
                at++;
                int left = aSum();
                at++;
                int right = aSum();
                at++;
                return word.equals("min") ? Math.min(left, right) : Math.max(left, right);
            default: return Integer.parseInt(word);
        }
    }

    private int waits(Pact pact) {
        return pact.state == 1 ? day - pact.begunOn : 0;
    }

    private int blocked() {
        return (int) bees.stream().filter(b -> b.blocker != null).count();
    }

    private int begun() {
        return (int) pacts.stream().filter(p -> p.state == 1).count();
    }

    // ---- answers

    /** What a doing by hand answers; null if it cannot be done. */
    Integer byHand(String doing, int number) {
        int open = begun();
        boolean can = switch (doing) {
            case "begin" -> begins(pacts.get(number));
            case "crash" -> turns(bees.get(number), false);
            case "wake" -> turns(bees.get(number), true);
            case "crashQueen" -> turnsQueen(false);
            default -> turnsQueen(true);
        };
        int awake = (int) bees.stream().filter(b -> b.awake).count();
        return !can ? null : doing.equals("begin") ? Integer.valueOf(begun()) : doing.endsWith("Queen") ? open : awake;
    }

    int passDays(int days) {
        int heard = 0;
        for (int i = 0; i < days; i++) {
            heard += aDay();
        }
        return heard;
    }

    private Model after(int days) {
        Model other = copy();
        other.passDays(days);
        return other;
    }

    int honeyAfter(int drone, int days) {
        return after(days).bees.get(drone).honey;
    }

    int stateAfter(int deal, int days) {
        return after(days).pacts.get(deal).state;
    }

    int daysUntilFree(int drone) {
        Model other = copy();
        for (int days = 0; days <= 40; days++) {
            if (other.bees.get(drone).blocker == null) {
                return days;
            }
            other.aDay();
        }
        return -1;
    }

    int bestToWake() {
        int[] left = new int[bees.size()];
        for (int i = 0; i < left.length; i++) {
            Model other = copy();
            left[i] = Integer.MAX_VALUE;
            if (other.turns(other.bees.get(i), true)) {
                other.passDays(3);
                left[i] = other.blocked();
            }
        }
        int fewest = Arrays.stream(left).min().orElse(Integer.MAX_VALUE);
        for (int i = 0; i < left.length && fewest != Integer.MAX_VALUE; i++) {
            if (left[i] == fewest) {
                return i;
            }
        }
        return -1;
    }

    /** All that can be asked without an argument, and of each drone, deal and part, in one row. */
    List<Integer> all() {
        int honey = bees.stream().mapToInt(b -> b.honey).sum();
        List<Integer> all = new ArrayList<>(List.of(bees.size(), pacts.size(), day, done, blocked(), honey,
            queen ? 1 : 0, bestToWake()));
        for (int i = 0; i < bees.size(); i++) {
            Bee bee = bees.get(i);
            all.addAll(List.of(bee.honey, bee.awake ? 1 : 0, pacts.indexOf(bee.blocker), bee.log, daysUntilFree(i)));
        }
        for (Pact pact : pacts) {
            all.addAll(List.of(pact.state, waits(pact), (int) pact.parts.stream().filter(p -> p.vote == 1).count()));
            all.addAll(List.of(pact.parts.stream().allMatch(Model::agrees) ? 1 : 0, pact.parts.size()));
            for (Part part : pact.parts) {
                all.addAll(List.of(bees.indexOf(part.bee), part.change, part.vote, part.heard ? 1 : 0));
            }
        }
        return all;
    }
}
