import java.math.BigInteger;
import java.util.ArrayList;
import java.util.List;
import java.util.Random;

/**
 * Random runs of calls against a second program, written from the document's words alone: months
 * are told one by one, and no sum is an int. What a call throws is an answer too.
 */
public final class ModelTests {
    private static final int RUNS = 3000;
    private static final int CALLS = 512;
    private static final int CALL_KINDS = 22;

    private interface Call {
        long run();
    }

    private static final class ModelLand {
        long lower = 10000;
        long upper = 40000;
        long[] rates = {10, 20, 40};

        long tax(long income) {
            BigInteger sum = BigInteger.ZERO;
            long[] ends = {lower, upper, Math.max(upper, income)};
            long done = 0;
            for (int band = 0; band < 3; band++) {
                long end = Math.min(income, ends[band]);
                if (end > done) {
                    sum = sum.add(BigInteger.valueOf(end - done).multiply(BigInteger.valueOf(rates[band])));
                    done = end;
                }
            }
            return sum.divide(BigInteger.valueOf(100)).longValueExact();
        }

        // Taking the tax of income and number as the next number climbs from 0 to the least one.
        long grossTax(long income) {
            long number = 0;
            while (tax(income + number) != number) {
                number = tax(income + number);
            }
            return number;
        }
    }

    private static final class ModelBonus {
        long coins;
        int from;
        int to;
    }

    private static final class ModelPerson {
        int home;
        int host;
        long pay;
        long rent;
        long norm;
        boolean[] abroad = new boolean[12];
        List<ModelBonus> bonuses = new ArrayList<>();
    }

    /** What is due, by the document. */
    private static final class Model {
        final ModelLand[] lands = {new ModelLand(), new ModelLand(), new ModelLand(), new ModelLand()};
        final List<ModelPerson> people = new ArrayList<>();

        private static void range(boolean holds) {
            if (!holds) {
                throw new IllegalArgumentException();
            }
        }

        private ModelLand land(int land) {
            range(land >= 0 && land <= 3);
            return lands[land];
        }

        private ModelPerson person(int person) {
            if (person < 0 || person >= people.size()) {
                throw new IndexOutOfBoundsException();
            }
            return people.get(person);
        }

        long setLimits(int land, int lower, int upper) {
            ModelLand it = land(land);
            range(lower >= 0 && lower <= 1000000 && upper >= lower && upper <= 1000000);
            it.lower = lower;
            it.upper = upper;
            return 0;
        }

        long setRates(int land, int... rates) {
            ModelLand it = land(land);
            for (int rate : rates) {
                range(rate >= 0 && rate <= 60);
            }
            it.rates = new long[] {rates[0], rates[1], rates[2]};
            return 0;
        }

        long tax(int land, int income) {
            range(income >= 0 && income <= 10000000);
            return land(land).tax(income);
        }

        long grossTax(int land, int income, int most) {
            range(income >= 0 && income <= most);
            return land(land).grossTax(income);
        }

        long add(int home, int host, int pay) {
            land(home);
            land(host);
            range(home != host && pay >= 0 && pay <= 100000);
            if (people.size() == 10) {
                throw new IllegalStateException();
            }
            ModelPerson it = new ModelPerson();
            it.home = home;
            it.host = host;
            it.pay = pay;
            people.add(it);
            return people.size() - 1;
        }

        long setAbroad(int person, int from, int to) {
            ModelPerson it = person(person);
            range(from >= 0 && from <= 12 && to >= from && to <= 12);
            long before = 0;
            for (int month = 0; month < 12; month++) {
                before += it.abroad[month] ? 1 : 0;
                it.abroad[month] = month >= from && month < to;
            }
            return before;
        }

        long setPay(int person, int pay) {
            ModelPerson it = person(person);
            range(pay >= 0 && pay <= 100000);
            long before = it.pay;
            it.pay = pay;
            return before;
        }

        long setHousing(int person, int rent, int norm) {
            ModelPerson it = person(person);
            range(rent >= 0 && rent <= 50000 && norm >= 0 && norm <= 40);
            it.rent = rent;
            it.norm = norm;
            return ownShare(it);
        }

        long addBonus(int person, int coins, int from, int to) {
            ModelPerson it = person(person);
            range(coins >= 1 && coins <= 500000 && from >= 0 && from <= 11 && to > from && to <= 12);
            if (it.bonuses.size() == 6) {
                throw new IllegalStateException();
            }
            ModelBonus bonus = new ModelBonus();
            bonus.coins = coins;
            bonus.from = from;
            bonus.to = to;
            it.bonuses.add(bonus);
            return it.bonuses.size() - 1;
        }

        long abroadPart(int person, int bonus) {
            ModelPerson it = person(person);
            if (bonus < 0 || bonus >= it.bonuses.size()) {
                throw new IndexOutOfBoundsException();
            }
            return part(it, it.bonuses.get(bonus));
        }

        long held(int person, int month) {
            ModelPerson it = person(person);
            range(month >= 0 && month <= 11);
            return it.abroad[month] ? lands[it.home].tax(12 * it.pay) / 12 : 0;
        }

        private static long ownShare(ModelPerson it) {
            return Math.min(it.rent, it.pay * it.norm / 100);
        }

        private static long part(ModelPerson it, ModelBonus bonus) {
            long abroad = 0;
            long months = 0;
            for (int month = bonus.from; month < bonus.to; month++) {
                months++;
                abroad += it.abroad[month] ? 1 : 0;
            }
            return bonus.coins * abroad / months;
        }

        private static long whole(ModelPerson it) {
            long sum = 12 * it.pay;
            for (ModelBonus bonus : it.bonuses) {
                sum += bonus.coins;
            }
            return sum;
        }

        long supposedTax(int person) {
            ModelPerson it = person(person);
            return lands[it.home].tax(whole(it));
        }

        long homeIncome(int person) {
            ModelPerson it = person(person);
            long sum = 0;
            for (boolean abroad : it.abroad) {
                sum += abroad ? 0 : it.pay;
            }
            for (ModelBonus bonus : it.bonuses) {
                sum += bonus.coins - part(it, bonus);
            }
            return sum;
        }

        long homeTax(int person) {
            ModelPerson it = person(person);
            long whole = whole(it);
            return whole == 0 ? 0 : lands[it.home].tax(whole) * homeIncome(person) / whole;
        }

        private static long housing(ModelPerson it) {
            long sum = 0;
            for (boolean abroad : it.abroad) {
                sum += abroad ? it.rent - ownShare(it) : 0;
            }
            return sum;
        }

        long hostIncome(int person) {
            ModelPerson it = person(person);
            return whole(it) - homeIncome(person) + housing(it);
        }

        long hostTax(int person) {
            ModelPerson it = person(person);
            return lands[it.host].grossTax(hostIncome(person));
        }

        private long heldInAll(int person) {
            long sum = 0;
            for (int month = 0; month < 12; month++) {
                sum += held(person, month);
            }
            return sum;
        }

        long borne(int person) {
            return heldInAll(person) + homeTax(person);
        }

        long settlement(int person) {
            return supposedTax(person) - borne(person);
        }

        long cost(int person) {
            return hostTax(person) + housing(person(person)) - heldInAll(person) - settlement(person);
        }

        long dearest() {
            long best = -1;
            for (int i = people.size() - 1; i >= 0; i--) {
                if (best < 0 || cost(i) >= cost((int) best)) {
                    best = i;
                }
            }
            return best;
        }
    }

    private static final Random RANDOM = new Random(20261120);
    private static int passed = 0;
    private static int failed = 0;

    public static void main(String[] args) {
        for (int run = 0; run < RUNS && failed < 20; run++) {
            oneRun(run);
        }
        System.out.println(passed + " passed, " + failed + " failed");
        if (failed != 0) {
            System.exit(1);
        }
    }

    private static void oneRun(int run) {
        TaxEqualiser real = new TaxEqualiser();
        Model model = new Model();
        // Some runs have only right arguments, so that they come to full objects.
        int wrongPercent = run % 3 == 0 ? 0 : 8;
        for (int call = 0; call < CALLS; call++) {
            oneCall(run, real, model, wrongPercent);
        }
    }

    private static int pick(int least, int most, int wrongPercent) {
        if (RANDOM.nextInt(100) < wrongPercent) {
            int[] wrong = {least - 1, most + 1, Integer.MIN_VALUE, Integer.MAX_VALUE};
            return wrong[RANDOM.nextInt(wrong.length)];
        }
        int kind = RANDOM.nextInt(8);
        if (kind == 0 || most < least) {
            return least;
        }
        if (kind == 1) {
            return most;
        }
        long span = (long) most - least;
        long step = kind < 4 ? Math.min(span, 40) : span;
        return (int) (least + (long) (RANDOM.nextDouble() * (step + 1)));
    }

    private static void oneCall(int run, TaxEqualiser x, Model m, int w) {
        int land = pick(0, 3, w);
        int person = pick(0, Math.max(0, m.people.size() - 1), w);
        int from = pick(0, 12, w);
        int to = pick(from, 12, w);
        switch (RANDOM.nextInt(CALL_KINDS)) {
            case 0: {
                int lower = pick(0, 1000000, w);
                int upper = pick(lower, 1000000, w);
                same(run, "setLimits", () -> { x.setLimits(land, lower, upper); return 0; },
                    () -> m.setLimits(land, lower, upper));
                break;
            }
            case 1: {
                int a = pick(0, 60, w);
                int b = pick(0, 60, w);
                int c = pick(0, 60, w);
                same(run, "setRates", () -> { x.setRates(land, a, b, c); return 0; }, () -> m.setRates(land, a, b, c));
                break;
            }
            case 2: {
                int income = pick(0, 10000000, w);
                same(run, "tax", () -> x.tax(land, income), () -> m.tax(land, income));
                break;
            }
            case 3: {
                int income = pick(0, 10000000, w);
                same(run, "grossTax", () -> x.grossTax(land, income), () -> m.grossTax(land, income, 10000000));
                break;
            }
            case 4: {
                int income = pick(0, 20000, w);
                same(run, "grossTaxByTrying", () -> x.grossTaxByTrying(land, income),
                    () -> m.grossTax(land, income, 20000));
                break;
            }
            case 5: {
                int host = pick(0, 3, w);
                int pay = pick(0, 100000, w);
                same(run, "add", () -> x.add(land, host, pay), () -> m.add(land, host, pay));
                break;
            }
            case 6:
                same(run, "setAbroad", () -> x.setAbroad(person, from, to), () -> m.setAbroad(person, from, to));
                break;
            case 7: {
                int pay = pick(0, 100000, w);
                same(run, "setPay", () -> x.setPay(person, pay), () -> m.setPay(person, pay));
                break;
            }
            case 8: {
                int rent = pick(0, 50000, w);
                int norm = pick(0, 40, w);
                same(run, "setHousing", () -> x.setHousing(person, rent, norm), () -> m.setHousing(person, rent, norm));
                break;
            }
            case 9: {
                int coins = pick(1, 500000, w);
                int begin = pick(0, 11, w);
                int end = pick(begin + 1, 12, w);
                same(run, "addBonus", () -> x.addBonus(person, coins, begin, end),
                    () -> m.addBonus(person, coins, begin, end));
                break;
            }
            case 10:
                same(run, "people", () -> x.people(), () -> m.people.size());
                break;
            case 11: {
                int bonus = pick(0, 5, w);
                same(run, "abroadPart", () -> x.abroadPart(person, bonus), () -> m.abroadPart(person, bonus));
                break;
            }
            case 12: {
                int month = pick(0, 11, w);
                same(run, "held", () -> x.held(person, month), () -> m.held(person, month));
                break;
            }
            case 13:
                same(run, "supposedTax", () -> x.supposedTax(person), () -> m.supposedTax(person));
                break;
            case 14:
                same(run, "homeIncome", () -> x.homeIncome(person), () -> m.homeIncome(person));
                break;
            case 15:
                same(run, "homeTax", () -> x.homeTax(person), () -> m.homeTax(person));
                break;
            case 16:
                same(run, "hostIncome", () -> x.hostIncome(person), () -> m.hostIncome(person));
                break;
            case 17:
                same(run, "hostTax", () -> x.hostTax(person), () -> m.hostTax(person));
                break;
            case 18:
                same(run, "borne", () -> x.borne(person), () -> m.borne(person));
                break;
            case 19:
                same(run, "settlement", () -> x.settlement(person), () -> m.settlement(person));
                break;
            case 20:
                same(run, "cost", () -> x.cost(person), () -> m.cost(person));
                break;
            default:
                same(run, "dearest", () -> x.dearest(), () -> m.dearest());
                break;
        }
    }

    private static void same(int run, String name, Call real, Call model) {
        String got = answer(real, "TaxEqualiser");
        String want = answer(model, "ModelTests$Model");
        if (got.equals(want)) {
            passed++;
        } else {
            failed++;
            System.out.println("run " + run + ": " + name + " answered " + got + ", due is " + want);
        }
    }

    // What the machine or the library throws in the thrower's place is told apart.
    private static String answer(Call call, String thrower) {
        try {
            return Long.toString(call.run());
        } catch (RuntimeException e) {
            boolean own = e.getStackTrace()[0].getClassName().equals(thrower);
            return own ? e.getClass().getName() : "the machine's " + e;
        }
    }
}
