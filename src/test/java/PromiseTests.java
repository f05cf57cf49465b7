/** For each promise of the document: ordinary inputs, its edges, and wrong inputs. */
public final class PromiseTests {
    private interface Call {
        void run();
    }

    private static final Class<?> RANGE = IllegalArgumentException.class;
    private static final Class<?> NONE_SUCH = IndexOutOfBoundsException.class;
    private static final Class<?> FULL = IllegalStateException.class;
    private static final int LEAST = Integer.MIN_VALUE;
    private static final int MOST = Integer.MAX_VALUE;

    private static int passed = 0;
    private static int failed = 0;

    private static void due(String what, long got, long want) {
        if (got == want) {
            passed++;
        } else {
            failed++;
            System.out.println(what + " answered " + got + ", due is " + want);
        }
    }

    private static void dueThrow(String what, Class<?> want, Call call) {
        Class<?> got = null;
        boolean ownThrow = false;
        try {
            call.run();
        } catch (RuntimeException e) {
            got = e.getClass();
            // The class throws by itself; neither the machine nor the library does it in its place.
            ownThrow = e.getStackTrace()[0].getClassName().equals("TaxEqualiser");
        }
        if (got == want && ownThrow) {
            passed++;
        } else {
            failed++;
            System.out.println(what + " threw " + got + " by itself: " + ownThrow + ", due is " + want);
        }
    }

    public static void main(String[] args) {
        newObject();
        setLimits();
        setRates();
        tax();
        grossTax();
        grossTaxByTrying();
        add();
        setAbroad();
        setPay();
        setHousing();
        addBonus();
        people();
        abroadPart();
        held();
        supposedTax();
        homeIncome();
        homeTax();
        hostIncome();
        hostTax();
        borne();
        settlement();
        cost();
        dearest();
        queriesWithoutPerson();
        objectsApart();
        System.out.println(passed + " passed, " + failed + " failed");
        if (failed != 0) {
            System.exit(1);
        }
    }

    private static TaxEqualiser withPerson(int home, int host, int pay) {
        TaxEqualiser x = new TaxEqualiser();
        x.add(home, host, pay);
        return x;
    }

    // Promise 1
    private static void newObject() {
        TaxEqualiser x = new TaxEqualiser();
        due("1 people", x.people(), 0);
        due("1 dearest", x.dearest(), -1);
        for (int land = 0; land < 4; land++) {
            due("1 first band", x.tax(land, 10000), 1000);
            due("1 second band begins", x.tax(land, 10005), 1001);
            due("1 second band", x.tax(land, 40000), 7000);
            due("1 third band begins", x.tax(land, 40005), 7002);
            due("1 third band", x.tax(land, 10000000), 3991000);
            x.setRates(land, 50, 0, 50);
            due("1 first limit", x.tax(land, 40000), 5000);
            due("1 second limit", x.tax(land, 40002), 5001);
        }
    }

    // Promise 2
    private static void setLimits() {
        TaxEqualiser x = new TaxEqualiser();
        x.setLimits(1, 100, 200);
        due("2 below lower", x.tax(1, 100), 10);
        due("2 to upper", x.tax(1, 200), 30);
        due("2 above upper", x.tax(1, 300), 70);
        due("2 other land 0", x.tax(0, 300), 30);
        due("2 other land 2", x.tax(2, 300), 30);
        x.setLimits(3, 0, 0);
        due("2 both 0", x.tax(3, 100), 40);
        x.setLimits(3, 0, 1000000);
        due("2 no first band", x.tax(3, 1000000), 200000);
        due("2 no first band, third", x.tax(3, 1000010), 200004);
        x.setLimits(3, 1000000, 1000000);
        due("2 no second band", x.tax(3, 1000010), 100004);
        x.setLimits(0, 50, 50);
        due("2 land 0", x.tax(0, 60), 9);
        dueThrow("2 land -1", RANGE, () -> x.setLimits(-1, 0, 0));
        dueThrow("2 land 4", RANGE, () -> x.setLimits(4, 0, 0));
        dueThrow("2 land least", RANGE, () -> x.setLimits(LEAST, 0, 0));
        dueThrow("2 land most", RANGE, () -> x.setLimits(MOST, 0, 0));
        dueThrow("2 lower -1", RANGE, () -> x.setLimits(1, -1, 5));
        dueThrow("2 lower above", RANGE, () -> x.setLimits(1, 1000001, 1000001));
        dueThrow("2 upper below lower", RANGE, () -> x.setLimits(1, 5, 4));
        dueThrow("2 upper above", RANGE, () -> x.setLimits(1, 5, 1000001));
        dueThrow("2 upper most", RANGE, () -> x.setLimits(1, 5, MOST));
        due("2 unchanged by a throw", x.tax(1, 300), 70);
    }

    // Promise 3
    private static void setRates() {
        TaxEqualiser x = new TaxEqualiser();
        x.setLimits(2, 100, 200);
        x.setRates(2, 1, 2, 3);
        due("3 first", x.tax(2, 100), 1);
        due("3 second", x.tax(2, 200), 3);
        due("3 third", x.tax(2, 300), 6);
        due("3 other land", x.tax(1, 100), 10);
        x.setRates(2, 60, 0, 60);
        due("3 most first", x.tax(2, 100), 60);
        due("3 least second", x.tax(2, 200), 60);
        due("3 most third", x.tax(2, 300), 120);
        x.setRates(2, 0, 60, 0);
        due("3 least first", x.tax(2, 100), 0);
        due("3 most second", x.tax(2, 200), 60);
        due("3 least third", x.tax(2, 300), 60);
        dueThrow("3 land -1", RANGE, () -> x.setRates(-1, 0, 0, 0));
        dueThrow("3 land 4", RANGE, () -> x.setRates(4, 0, 0, 0));
        dueThrow("3 first -1", RANGE, () -> x.setRates(2, -1, 5, 5));
        dueThrow("3 first 61", RANGE, () -> x.setRates(2, 61, 5, 5));
        dueThrow("3 second -1", RANGE, () -> x.setRates(2, 5, -1, 5));
        dueThrow("3 second 61", RANGE, () -> x.setRates(2, 5, 61, 5));
        dueThrow("3 third -1", RANGE, () -> x.setRates(2, 5, 5, -1));
        dueThrow("3 third 61", RANGE, () -> x.setRates(2, 5, 5, 61));
        due("3 unchanged by a throw", x.tax(2, 300), 60);
    }

    // Promise 4
    private static void tax() {
        TaxEqualiser x = new TaxEqualiser();
        due("4 nothing", x.tax(0, 0), 0);
        due("4 rounded down", x.tax(0, 9), 0);
        due("4 one coin", x.tax(0, 10), 1);
        due("4 at third", x.tax(0, 50000), 11000);
        x.setLimits(3, 15, 25);
        x.setRates(3, 10, 15, 10);
        // 1.5 + 1.5 + 1 is 4: the parts are divided together, not one by one.
        due("4 divided together", x.tax(3, 35), 4);
        x.setRates(1, 60, 60, 60);
        due("4 most", x.tax(1, 10000000), 6000000);
        dueThrow("4 land -1", RANGE, () -> x.tax(-1, 5));
        dueThrow("4 land 4", RANGE, () -> x.tax(4, 5));
        dueThrow("4 income -1", RANGE, () -> x.tax(0, -1));
        dueThrow("4 income least", RANGE, () -> x.tax(0, LEAST));
        dueThrow("4 income above", RANGE, () -> x.tax(0, 10000001));
        dueThrow("4 income most", RANGE, () -> x.tax(0, MOST));
    }

    // Promise 5
    private static void grossTax() {
        TaxEqualiser x = new TaxEqualiser();
        due("5 nothing", x.grossTax(0, 0), 0);
        due("5 rounded to none", x.grossTax(0, 9), 0);
        due("5 one", x.grossTax(0, 10), 1);
        due("5 across bands", x.grossTax(0, 9500), 1124);
        due("5 third band", x.grossTax(0, 50000), 18332);
        due("5 most income", x.grossTax(0, 10000000), 6651666);
        x.setRates(2, 60, 60, 60);
        due("5 least of several", x.grossTax(2, 100), 148);
        due("5 greatest", x.grossTax(2, 10000000), 14999998);
        x.setRates(3, 0, 0, 0);
        due("5 no tax", x.grossTax(3, 10000000), 0);
        x.setLimits(1, 100, 200);
        x.setRates(1, 50, 10, 0);
        due("5 falling rates", x.grossTax(1, 60), 51);
        due("5 falling rates, above", x.grossTax(1, 150), 60);
        dueThrow("5 land -1", RANGE, () -> x.grossTax(-1, 5));
        dueThrow("5 land 4", RANGE, () -> x.grossTax(4, 5));
        dueThrow("5 income -1", RANGE, () -> x.grossTax(0, -1));
        dueThrow("5 income above", RANGE, () -> x.grossTax(0, 10000001));
        dueThrow("5 income most", RANGE, () -> x.grossTax(0, MOST));
    }

    // Promise 6
    private static void grossTaxByTrying() {
        TaxEqualiser x = new TaxEqualiser();
        due("6 nothing", x.grossTaxByTrying(0, 0), 0);
        due("6 ordinary", x.grossTaxByTrying(0, 10), 1);
        due("6 most income", x.grossTaxByTrying(0, 20000), 3749);
        x.setRates(2, 60, 60, 60);
        due("6 least of several", x.grossTaxByTrying(2, 100), 148);
        due("6 greatest", x.grossTaxByTrying(2, 20000), 29998);
        x.setRates(1, 0, 0, 0);
        due("6 no tax", x.grossTaxByTrying(1, 20000), 0);
        x.setLimits(3, 700, 900);
        int[][] rates = {{0, 60, 0}, {60, 0, 60}, {1, 30, 59}, {50, 7, 3}};
        for (int[] each : rates) {
            x.setRates(3, each[0], each[1], each[2]);
            for (int income = 0; income < 1200; income += 13) {
                due("6 same as 5", x.grossTaxByTrying(3, income), x.grossTax(3, income));
            }
        }
        dueThrow("6 land -1", RANGE, () -> x.grossTaxByTrying(-1, 5));
        dueThrow("6 land 4", RANGE, () -> x.grossTaxByTrying(4, 5));
        dueThrow("6 income -1", RANGE, () -> x.grossTaxByTrying(0, -1));
        dueThrow("6 income above", RANGE, () -> x.grossTaxByTrying(0, 20001));
        dueThrow("6 income most", RANGE, () -> x.grossTaxByTrying(0, MOST));
    }

    // Promise 7
    private static void add() {
        TaxEqualiser x = new TaxEqualiser();
        dueThrow("7 home -1", RANGE, () -> x.add(-1, 0, 5));
        dueThrow("7 home 4", RANGE, () -> x.add(4, 0, 5));
        dueThrow("7 host -1", RANGE, () -> x.add(0, -1, 5));
        dueThrow("7 host 4", RANGE, () -> x.add(0, 4, 5));
        dueThrow("7 same lands", RANGE, () -> x.add(2, 2, 5));
        dueThrow("7 pay -1", RANGE, () -> x.add(0, 1, -1));
        dueThrow("7 pay above", RANGE, () -> x.add(0, 1, 100001));
        due("7 none added by a throw", x.people(), 0);
        due("7 first", x.add(0, 3, 0), 0);
        due("7 second", x.add(3, 0, 100000), 1);
        due("7 least pay", x.homeIncome(0), 0);
        due("7 most pay", x.homeIncome(1), 1200000);
        due("7 at first not abroad", x.setAbroad(1, 0, 1), 0);
        due("7 at first no rent", x.hostIncome(1), 100000);
        dueThrow("7 at first no bonus", NONE_SUCH, () -> x.abroadPart(1, 0));
        for (int i = 2; i < 10; i++) {
            due("7 number", x.add(1, 2, i), i);
        }
        dueThrow("7 an eleventh", FULL, () -> x.add(0, 1, 5));
        dueThrow("7 an eleventh, same lands", RANGE, () -> x.add(1, 1, 5));
        dueThrow("7 an eleventh, pay above", RANGE, () -> x.add(0, 1, 100001));
        due("7 still ten", x.people(), 10);
        x.setRates(1, 20, 20, 20);
        x.setRates(2, 50, 50, 50);
        x.setPay(9, 1000);
        due("7 home is the home", x.supposedTax(9), 2400);
        x.setAbroad(9, 0, 12);
        due("7 host is the host", x.hostTax(9), 11999);
    }

    // Promise 8
    private static void setAbroad() {
        TaxEqualiser x = withPerson(0, 1, 100);
        due("8 none before", x.setAbroad(0, 3, 9), 0);
        due("8 six before", x.setAbroad(0, 0, 12), 6);
        due("8 twelve before", x.setAbroad(0, 12, 12), 12);
        due("8 from 12 is none", x.setAbroad(0, 0, 0), 0);
        due("8 to 0 is none", x.setAbroad(0, 11, 12), 0);
        due("8 last month", x.hostIncome(0), 100);
        dueThrow("8 person -1", NONE_SUCH, () -> x.setAbroad(-1, 0, 1));
        dueThrow("8 person 1", NONE_SUCH, () -> x.setAbroad(1, 0, 1));
        dueThrow("8 person and months", NONE_SUCH, () -> x.setAbroad(1, 13, 1));
        dueThrow("8 from -1", RANGE, () -> x.setAbroad(0, -1, 5));
        dueThrow("8 from 13", RANGE, () -> x.setAbroad(0, 13, 13));
        dueThrow("8 to below from", RANGE, () -> x.setAbroad(0, 5, 4));
        dueThrow("8 to 13", RANGE, () -> x.setAbroad(0, 5, 13));
        dueThrow("8 to most", RANGE, () -> x.setAbroad(0, 5, MOST));
        due("8 unchanged by a throw", x.setAbroad(0, 5, 5), 1);
    }

    // Promise 9
    private static void setPay() {
        TaxEqualiser x = withPerson(0, 1, 3000);
        due("9 as added", x.setPay(0, 100000), 3000);
        due("9 for all months", x.homeIncome(0), 1200000);
        due("9 most before", x.setPay(0, 0), 100000);
        due("9 none", x.homeIncome(0), 0);
        due("9 none before", x.setPay(0, 70), 0);
        dueThrow("9 person -1", NONE_SUCH, () -> x.setPay(-1, 5));
        dueThrow("9 person 1", NONE_SUCH, () -> x.setPay(1, 5));
        dueThrow("9 person and pay", NONE_SUCH, () -> x.setPay(1, -1));
        dueThrow("9 pay -1", RANGE, () -> x.setPay(0, -1));
        dueThrow("9 pay above", RANGE, () -> x.setPay(0, 100001));
        due("9 unchanged by a throw", x.setPay(0, 70), 70);
    }

    // Promise 10
    private static void setHousing() {
        TaxEqualiser x = withPerson(0, 1, 3009);
        due("10 norm in percent, down", x.setHousing(0, 1000, 10), 300);
        due("10 not more than the rent", x.setHousing(0, 299, 10), 299);
        due("10 as much as the rent", x.setHousing(0, 300, 10), 300);
        due("10 no norm", x.setHousing(0, 50000, 0), 0);
        due("10 no rent", x.setHousing(0, 0, 40), 0);
        due("10 both most", x.setHousing(0, 50000, 40), 1203);
        x.setAbroad(0, 2, 4);
        due("10 rent and norm are set", x.hostIncome(0), 2 * (3009 + 50000 - 1203));
        x.setPay(0, 100000);
        due("10 own share follows the pay", x.hostIncome(0), 2 * (100000 + 50000 - 40000));
        due("10 most own share", x.setHousing(0, 50000, 40), 40000);
        dueThrow("10 person -1", NONE_SUCH, () -> x.setHousing(-1, 1, 1));
        dueThrow("10 person 1", NONE_SUCH, () -> x.setHousing(1, 1, 1));
        dueThrow("10 person and rent", NONE_SUCH, () -> x.setHousing(1, -1, 41));
        dueThrow("10 rent -1", RANGE, () -> x.setHousing(0, -1, 1));
        dueThrow("10 rent above", RANGE, () -> x.setHousing(0, 50001, 1));
        dueThrow("10 norm -1", RANGE, () -> x.setHousing(0, 1, -1));
        dueThrow("10 norm above", RANGE, () -> x.setHousing(0, 1, 41));
        due("10 unchanged by a throw", x.hostIncome(0), 2 * (100000 + 50000 - 40000));
    }

    // Promise 11
    private static void addBonus() {
        TaxEqualiser x = withPerson(0, 1, 100);
        x.add(1, 0, 100);
        dueThrow("11 person -1", NONE_SUCH, () -> x.addBonus(-1, 1, 0, 1));
        dueThrow("11 person 2", NONE_SUCH, () -> x.addBonus(2, 1, 0, 1));
        dueThrow("11 person and coins", NONE_SUCH, () -> x.addBonus(2, 0, 0, 1));
        dueThrow("11 coins 0", RANGE, () -> x.addBonus(0, 0, 0, 1));
        dueThrow("11 coins above", RANGE, () -> x.addBonus(0, 500001, 0, 1));
        dueThrow("11 from -1", RANGE, () -> x.addBonus(0, 1, -1, 1));
        dueThrow("11 from 12", RANGE, () -> x.addBonus(0, 1, 12, 13));
        dueThrow("11 from 12 to 12", RANGE, () -> x.addBonus(0, 1, 12, 12));
        dueThrow("11 from most", RANGE, () -> x.addBonus(0, 1, MOST, LEAST));
        dueThrow("11 to is from", RANGE, () -> x.addBonus(0, 1, 5, 5));
        dueThrow("11 to below from", RANGE, () -> x.addBonus(0, 1, 5, 4));
        dueThrow("11 to 13", RANGE, () -> x.addBonus(0, 1, 5, 13));
        due("11 none told by a throw", x.homeIncome(0), 1200);
        due("11 least coins", x.addBonus(0, 1, 0, 1), 0);
        due("11 most coins", x.addBonus(0, 500000, 11, 12), 1);
        due("11 all months", x.addBonus(0, 7, 0, 12), 2);
        due("11 numbered for each person", x.addBonus(1, 3, 2, 9), 0);
        due("11 coins are income", x.homeIncome(0), 1200 + 1 + 500000 + 7);
        for (int i = 3; i < 6; i++) {
            due("11 number", x.addBonus(0, 9, i, i + 1), i);
        }
        dueThrow("11 a seventh", FULL, () -> x.addBonus(0, 1, 0, 1));
        dueThrow("11 a seventh, coins 0", RANGE, () -> x.addBonus(0, 0, 0, 1));
        dueThrow("11 a seventh, to is from", RANGE, () -> x.addBonus(0, 1, 3, 3));
        due("11 still six", x.homeIncome(0), 1200 + 1 + 500000 + 7 + 27);
        due("11 other person has room", x.addBonus(1, 3, 2, 9), 1);
    }

    // Promise 12
    private static void people() {
        TaxEqualiser x = new TaxEqualiser();
        due("12 none", x.people(), 0);
        for (int i = 0; i < 10; i++) {
            x.add(i % 4, (i + 1) % 4, i);
            due("12 some", x.people(), i + 1);
        }
        dueThrow("12 an eleventh", FULL, () -> x.add(0, 1, 5));
        due("12 ten", x.people(), 10);
    }

    // Promise 13
    private static void abroadPart() {
        TaxEqualiser x = withPerson(0, 1, 3000);
        x.addBonus(0, 5000, 0, 6);
        x.addBonus(0, 7, 2, 5);
        x.addBonus(0, 100, 9, 12);
        x.addBonus(0, 100, 4, 6);
        x.addBonus(0, 500000, 0, 12);
        x.addBonus(0, 100, 0, 3);
        due("13 not abroad", x.abroadPart(0, 0), 0);
        x.setAbroad(0, 3, 9);
        due("13 in part", x.abroadPart(0, 0), 2500);
        due("13 rounded down", x.abroadPart(0, 1), 4);
        due("13 begun when back", x.abroadPart(0, 2), 0);
        due("13 all abroad", x.abroadPart(0, 3), 100);
        due("13 around the months abroad", x.abroadPart(0, 4), 250000);
        due("13 ended before", x.abroadPart(0, 5), 0);
        x.setAbroad(0, 11, 12);
        due("13 follows the months", x.abroadPart(0, 2), 33);
        due("13 one of twelve", x.abroadPart(0, 4), 41666);
        x.setAbroad(0, 5, 5);
        due("13 no months within", x.abroadPart(0, 4), 0);
        dueThrow("13 person -1", NONE_SUCH, () -> x.abroadPart(-1, 0));
        dueThrow("13 person 1", NONE_SUCH, () -> x.abroadPart(1, 0));
        dueThrow("13 bonus -1", NONE_SUCH, () -> x.abroadPart(0, -1));
        dueThrow("13 bonus 6", NONE_SUCH, () -> x.abroadPart(0, 6));
        dueThrow("13 bonus most", NONE_SUCH, () -> x.abroadPart(0, MOST));
        x.add(0, 1, 1);
        dueThrow("13 bonus of another", NONE_SUCH, () -> x.abroadPart(1, 0));
    }

    // Promise 14
    private static void held() {
        TaxEqualiser x = withPerson(0, 1, 3000);
        for (int month = 0; month < 12; month++) {
            due("14 none abroad", x.held(0, month), 0);
        }
        x.setAbroad(0, 3, 9);
        x.addBonus(0, 5000, 3, 4);
        for (int month = 0; month < 12; month++) {
            due("14 month " + month, x.held(0, month), month >= 3 && month < 9 ? 516 : 0);
        }
        x.setAbroad(0, 0, 12);
        due("14 first month", x.held(0, 0), 516);
        due("14 last month", x.held(0, 11), 516);
        x.setRates(1, 60, 60, 60);
        due("14 host rates do not matter", x.held(0, 11), 516);
        x.setRates(0, 60, 60, 60);
        due("14 home rates do", x.held(0, 11), 1800);
        dueThrow("14 person -1", NONE_SUCH, () -> x.held(-1, 0));
        dueThrow("14 person 1", NONE_SUCH, () -> x.held(1, 0));
        dueThrow("14 person and month", NONE_SUCH, () -> x.held(1, 12));
        dueThrow("14 month -1", RANGE, () -> x.held(0, -1));
        dueThrow("14 month 12", RANGE, () -> x.held(0, 12));
        dueThrow("14 month most", RANGE, () -> x.held(0, MOST));
    }

    // Promise 15
    private static void supposedTax() {
        TaxEqualiser x = withPerson(0, 1, 3000);
        due("15 of the pay", x.supposedTax(0), 6200);
        x.addBonus(0, 5000, 0, 6);
        due("15 and of a bonus", x.supposedTax(0), 7400);
        x.setAbroad(0, 0, 12);
        due("15 the same abroad", x.supposedTax(0), 7400);
        x.setHousing(0, 1000, 10);
        due("15 not of rents", x.supposedTax(0), 7400);
        x.setRates(1, 0, 0, 0);
        due("15 not of the host", x.supposedTax(0), 7400);
        x.setPay(0, 0);
        due("15 of the bonus alone", x.supposedTax(0), 500);
        for (int i = 1; i < 6; i++) {
            x.addBonus(0, 500000, 0, 1);
        }
        x.setRates(0, 60, 60, 60);
        x.setPay(0, 100000);
        due("15 of much", x.supposedTax(0), (1200000 + 2505000) / 10 * 6);
    }

    // Promise 16
    private static void homeIncome() {
        TaxEqualiser x = withPerson(0, 1, 3000);
        due("16 all at home", x.homeIncome(0), 36000);
        x.setAbroad(0, 3, 9);
        due("16 half at home", x.homeIncome(0), 18000);
        x.setHousing(0, 1000, 10);
        due("16 no rents", x.homeIncome(0), 18000);
        x.addBonus(0, 7, 2, 5);
        due("16 a bonus less its part", x.homeIncome(0), 18003);
        x.addBonus(0, 7, 2, 5);
        due("16 each part rounded", x.homeIncome(0), 18006);
        x.setAbroad(0, 0, 12);
        due("16 none at home", x.homeIncome(0), 0);
    }

    // Promise 17
    private static void homeTax() {
        TaxEqualiser x = withPerson(0, 1, 3000);
        due("17 all at home", x.homeTax(0), 6200);
        x.setAbroad(0, 3, 9);
        due("17 by progression", x.homeTax(0), 3100);
        x.setAbroad(0, 0, 1);
        due("17 rounded down", x.homeTax(0), 5683);
        x.addBonus(0, 5000, 0, 6);
        due("17 with a bonus", x.homeTax(0), 7400L * (33000 + 4167) / 41000);
        x.setAbroad(0, 0, 12);
        due("17 none at home", x.homeTax(0), 0);
        TaxEqualiser y = withPerson(2, 3, 0);
        due("17 no income", y.homeTax(0), 0);
        y.setRates(2, 60, 60, 60);
        y.setPay(0, 100000);
        for (int i = 0; i < 6; i++) {
            y.addBonus(0, 500000, 0, 12);
        }
        due("17 greatest", y.homeTax(0), 2520000);
        y.setAbroad(0, 11, 12);
        due("17 great part", y.homeTax(0), 2520000L * (4200000 - 100000 - 6 * 41666) / 4200000);
    }

    // Promise 18
    private static void hostIncome() {
        TaxEqualiser x = withPerson(0, 1, 3000);
        x.setHousing(0, 1000, 10);
        due("18 not abroad", x.hostIncome(0), 0);
        x.setAbroad(0, 3, 9);
        due("18 pay and rents less own shares", x.hostIncome(0), 18000 + 6 * 700);
        x.setHousing(0, 200, 10);
        due("18 own share is the rent", x.hostIncome(0), 18000);
        x.addBonus(0, 7, 2, 5);
        x.addBonus(0, 7, 2, 5);
        due("18 parts of bonuses", x.hostIncome(0), 18008);
        x.setRates(0, 60, 60, 60);
        due("18 what is held does not lower it", x.hostIncome(0), 18008);
        x.setAbroad(0, 0, 12);
        due("18 all abroad", x.hostIncome(0), 36014);
    }

    // Promise 19
    private static void hostTax() {
        TaxEqualiser x = withPerson(0, 1, 3000);
        due("19 not abroad", x.hostTax(0), 0);
        x.setAbroad(0, 3, 9);
        due("19 grossed up", x.hostTax(0), 3249);
        x.setHousing(0, 1000, 10);
        due("19 with rents", x.hostTax(0), 4299);
        x.addBonus(0, 5000, 0, 6);
        due("19 with a bonus", x.hostTax(0), x.grossTax(1, 24700));
        x.setRates(1, 0, 0, 0);
        due("19 no tax there", x.hostTax(0), 0);
        TaxEqualiser y = withPerson(0, 1, 100000);
        y.setRates(1, 60, 60, 60);
        y.setAbroad(0, 0, 12);
        y.setHousing(0, 50000, 0);
        for (int i = 0; i < 6; i++) {
            y.addBonus(0, 500000, 0, 12);
        }
        due("19 greatest", y.hostTax(0), 7199998);
    }

    // Promise 20
    private static void borne() {
        TaxEqualiser x = withPerson(0, 1, 3000);
        due("20 home tax alone", x.borne(0), 6200);
        x.setAbroad(0, 3, 9);
        due("20 held in each month, rounded", x.borne(0), 6 * 516 + 3100);
        x.setAbroad(0, 0, 12);
        due("20 held alone", x.borne(0), 12 * 516);
        x.setRates(1, 60, 60, 60);
        x.setHousing(0, 1000, 10);
        due("20 no host tax, no own share", x.borne(0), 12 * 516);
    }

    // Promise 21
    private static void settlement() {
        TaxEqualiser x = withPerson(0, 1, 3000);
        due("21 at home all is paid", x.settlement(0), 0);
        x.setAbroad(0, 3, 9);
        due("21 rounded months are owed", x.settlement(0), 4);
        x.addBonus(0, 5000, 0, 6);
        due("21 tax of the bonus abroad is owed", x.settlement(0), 604);
        TaxEqualiser y = withPerson(0, 1, 3000);
        y.setLimits(0, 36000, 36000);
        y.setRates(0, 50, 0, 0);
        y.addBonus(0, 36000, 0, 1);
        y.setAbroad(0, 1, 12);
        // 18000 - 11 * 1500 - 18000 * 39000 / 72000
        due("21 the firm owes", y.settlement(0), -8250);
    }

    // Promise 22
    private static void cost() {
        TaxEqualiser x = withPerson(0, 1, 3000);
        x.setHousing(0, 1000, 10);
        due("22 at home", x.cost(0), 0);
        x.setAbroad(0, 3, 9);
        due("22 with rents", x.cost(0), 4299 + 6000 - 1800 - 3096 - 4);
        x.setHousing(0, 0, 0);
        due("22 without rents", x.cost(0), 149);
        x.setRates(1, 0, 0, 0);
        due("22 below 0", x.cost(0), -3100);
        TaxEqualiser y = withPerson(0, 1, 3000);
        y.setLimits(0, 36000, 36000);
        y.setRates(0, 50, 0, 0);
        y.setRates(1, 0, 0, 0);
        y.addBonus(0, 36000, 0, 1);
        y.setAbroad(0, 1, 12);
        due("22 a settlement that the firm owes", y.cost(0), 8250 - 11 * 1500);
    }

    // Promise 23
    private static void dearest() {
        TaxEqualiser x = new TaxEqualiser();
        due("23 nobody", x.dearest(), -1);
        x.add(0, 1, 3000);
        x.add(0, 1, 3000);
        x.add(0, 1, 3000);
        due("23 all alike", x.dearest(), 0);
        x.setAbroad(1, 3, 9);
        due("23 the one above 0", x.dearest(), 1);
        x.setAbroad(2, 3, 9);
        due("23 of two the lower", x.dearest(), 1);
        x.setHousing(2, 1000, 10);
        due("23 the last", x.dearest(), 2);
        x.setRates(1, 0, 0, 0);
        x.setHousing(2, 0, 0);
        due("23 costs of 0 and below", x.dearest(), 0);
        x.setAbroad(0, 0, 12);
        due("23 all below 0", x.dearest(), 1);
        TaxEqualiser y = withPerson(0, 1, 3000);
        y.setRates(1, 0, 0, 0);
        y.setAbroad(0, 0, 12);
        due("23 one below 0", y.dearest(), 0);
    }

    // Promises 15 to 22 alike
    private static void queriesWithoutPerson() {
        TaxEqualiser x = new TaxEqualiser();
        askWithoutPerson(x, 0);
        x.add(0, 1, 5);
        int[] none = {-1, 1, 10, LEAST, MOST};
        for (int person : none) {
            askWithoutPerson(x, person);
        }
    }

    private static void askWithoutPerson(TaxEqualiser x, int person) {
        dueThrow("13 no person", NONE_SUCH, () -> x.abroadPart(person, 0));
        dueThrow("14 no person", NONE_SUCH, () -> x.held(person, 0));
        dueThrow("15 no person", NONE_SUCH, () -> x.supposedTax(person));
        dueThrow("16 no person", NONE_SUCH, () -> x.homeIncome(person));
        dueThrow("17 no person", NONE_SUCH, () -> x.homeTax(person));
        dueThrow("18 no person", NONE_SUCH, () -> x.hostIncome(person));
        dueThrow("19 no person", NONE_SUCH, () -> x.hostTax(person));
        dueThrow("20 no person", NONE_SUCH, () -> x.borne(person));
        dueThrow("21 no person", NONE_SUCH, () -> x.settlement(person));
        dueThrow("22 no person", NONE_SUCH, () -> x.cost(person));
    }

    // Two objects share no state.
    private static void objectsApart() {
        TaxEqualiser x = withPerson(0, 1, 3000);
        TaxEqualiser y = new TaxEqualiser();
        x.setRates(0, 0, 0, 0);
        x.setLimits(0, 0, 0);
        due("1 rates apart", y.tax(0, 50000), 11000);
        due("1 people apart", y.people(), 0);
    }
}
