/** Each sentence of the promises 1 to 23: every bound from both sides, the extremes of int, and each refused call. */
public final class PromiseSentenceTests {
    private static final String NO_PERSON = "Throws IndexOutOfBoundsException if there is no such person";
    private static final String OUT_OF_RANGE = "Throws IllegalArgumentException if an argument is out of range";
    private static final int LEAST = Sentences.LEAST;
    private static final int MOST = Sentences.MOST;

    private PromiseSentenceTests() {
    }

    public static void main(String[] args) {
        newObject();
        setLimits();
        setRates();
        tax();
        grossTax();
        grossTaxByTrying();
        add();
        setAbroad();
        setPay();
        setHousing();
        addBonus();
        people();
        abroadPart();
        held();
        supposedTax();
        homeIncome();
        homeTax();
        hostIncome();
        hostTax();
        borne();
        settlement();
        cost();
        dearest();
        Sentences.runAll("Promise ", true);
    }

    private static void due(String what, long got, long want) {
        Sentences.due(what, got, want);
    }

    private static void outOfRange(Sentences.Call call) {
        Sentences.refused(Sentences.RANGE, Worlds::twoPeople, call);
    }

    private static void newObject() {
        Sentences.section("Promise 1: A new object");
        Sentences.sentence("Lands as at first, and no people.", () -> {
            TaxEqualiser used = Worlds.full();
            used.setRates(0, 0, 0, 0);
            used.setLimits(1, 0, 0);
            TaxEqualiser x = new TaxEqualiser();
            due("no people", x.people(), 0);
            due("no dearest", x.dearest(), -1);
            Sentences.refused(Sentences.NONE_SUCH, Worlds::empty, y -> y.cost(0));
            for (int land = 0; land < 4; land++) {
                due("land " + land, x.tax(land, 50000), 11000);
            }
            due("the first number", x.add(0, 1, 5), 0);
        });
    }

    // ---- lands

    private static void setLimits() {
        Sentences.section("Promise 2: setLimits");
        Sentences.sentence("Sets the limits of a land.", () -> {
            TaxEqualiser x = Worlds.onePerson(3000);
            x.setLimits(0, 100, 200);
            due("the land", x.tax(0, 300), 70);
            due("no other land", x.tax(1, 300) + x.tax(2, 300) + x.tax(3, 300), 90);
            due("a person who is there already", x.supposedTax(0), 30 + 14320);
            x.setLimits(0, 200, 200);
            due("set again", x.tax(0, 300), 60);
        });
        Sentences.sentence("land: 0 to 3", () -> {
            Sentences.argument(0, 3, (x, land) -> x.setLimits(land, 1, 2));
            TaxEqualiser x = new TaxEqualiser();
            x.setLimits(0, 100, 100);
            x.setLimits(3, 50, 50);
            due("land 0", x.tax(0, 200), 50);
            due("land 3", x.tax(3, 200), 65);
        });
        Sentences.sentence("lower: 0 to 1000000", () -> {
            Sentences.argument(0, 1000000, (x, lower) -> x.setLimits(1, lower, 1000000));
            TaxEqualiser x = new TaxEqualiser();
            x.setLimits(1, 0, 1000000);
            due("lower 0", x.tax(1, 1000000), 200000);
            x.setLimits(1, 1000000, 1000000);
            due("lower 1000000", x.tax(1, 1000000), 100000);
            due("the third band is behind it", x.tax(1, 1000010), 100004);
        });
        Sentences.sentence("upper: lower to 1000000", () -> {
            Sentences.argument(0, 1000000, (x, upper) -> x.setLimits(1, 0, upper));
            Sentences.argument(777, 1000000, (x, upper) -> x.setLimits(1, 777, upper));
            Sentences.argument(1000000, 1000000, (x, upper) -> x.setLimits(1, 1000000, upper));
            TaxEqualiser x = new TaxEqualiser();
            x.setLimits(1, 777, 777);
            due("upper as lower, 78.1", x.tax(1, 778), 78);
            x.setLimits(1, 777, 778);
            due("upper one above, 77.9", x.tax(1, 778), 77);
            x.setLimits(1, 777, 1000000);
            due("upper 1000000", x.tax(1, 1000000), 77 + 199845);
        });
        Sentences.sentence(OUT_OF_RANGE, () -> {
            outOfRange(x -> x.setLimits(4, -1, -2));
            outOfRange(x -> x.setLimits(0, 1000001, 1000001));
            outOfRange(x -> x.setLimits(0, MOST, LEAST));
            outOfRange(x -> x.setLimits(0, LEAST, MOST));
            outOfRange(x -> x.setLimits(3, 40001, 40000));
            Sentences.accepted(Worlds::twoPeople, x -> x.setLimits(3, 40000, 40000));
        });
    }

    private static void setRates() {
        Sentences.section("Promise 3: setRates");
        Sentences.sentence("Sets the rates of a land.", () -> {
            TaxEqualiser x = Worlds.onePerson(3000);
            x.setRates(0, 1, 2, 3);
            due("the land", x.tax(0, 140000), 100 + 600 + 3000);
            due("no other land", x.tax(1, 100) + x.tax(2, 100) + x.tax(3, 100), 30);
            due("a person who is there already", x.supposedTax(0), 100 + 520);
            x.setRates(0, 0, 0, 0);
            due("all least", x.tax(0, 10000000), 0);
            x.setRates(0, 60, 60, 60);
            due("all most", x.tax(0, 10000000), 6000000);
        });
        Sentences.sentence("land: 0 to 3", () -> {
            Sentences.argument(0, 3, (x, land) -> x.setRates(land, 1, 2, 3));
            TaxEqualiser x = new TaxEqualiser();
            x.setRates(0, 11, 0, 0);
            x.setRates(3, 33, 0, 0);
            due("land 0", x.tax(0, 100), 11);
            due("land 3", x.tax(3, 100), 33);
        });
        Sentences.sentence("first: 0 to 60", () -> {
            Sentences.argument(0, 60, (x, first) -> x.setRates(1, first, 5, 5));
            due("0", taxWithRates(0, 5, 5, 10000), 0);
            due("60", taxWithRates(60, 5, 5, 10000), 6000);
        });
        Sentences.sentence("second: 0 to 60", () -> {
            Sentences.argument(0, 60, (x, second) -> x.setRates(1, 5, second, 5));
            due("0", taxWithRates(5, 0, 5, 40000), 500);
            due("60", taxWithRates(5, 60, 5, 40000), 500 + 18000);
        });
        Sentences.sentence("third: 0 to 60", () -> {
            Sentences.argument(0, 60, (x, third) -> x.setRates(1, 5, 5, third));
            due("0", taxWithRates(5, 5, 0, 50000), 2000);
            due("60", taxWithRates(5, 5, 60, 50000), 2000 + 6000);
        });
        Sentences.sentence(OUT_OF_RANGE, () -> {
            outOfRange(x -> x.setRates(-1, 61, 61, 61));
            outOfRange(x -> x.setRates(0, 61, 61, 61));
            outOfRange(x -> x.setRates(0, -1, -1, -1));
            outOfRange(x -> x.setRates(0, 100, 0, 0));
            outOfRange(x -> x.setRates(0, MOST, LEAST, MOST));
        });
    }

    private static int taxWithRates(int first, int second, int third, int income) {
        TaxEqualiser x = new TaxEqualiser();
        x.setRates(1, first, second, third);
        return x.tax(1, income);
    }

    private static void tax() {
        Sentences.section("Promise 4: tax");
        Sentences.sentence("Returns the tax of an income.", () -> {
            TaxEqualiser x = new TaxEqualiser();
            due("no income", x.tax(0, 0), 0);
            due("one coin", x.tax(0, 1), 0);
            due("0.9", x.tax(0, 9), 0);
            due("1", x.tax(0, 10), 1);
            due("the most income", x.tax(0, 10000000), 3991000);
            x.setRates(0, 60, 60, 60);
            due("the most tax", x.tax(0, 10000000), 6000000);
            due("the most but one", x.tax(0, 9999999), 5999999);
        });
        Sentences.sentence("land: 0 to 3", () -> {
            Sentences.argument(0, 3, (x, land) -> x.tax(land, 100));
            due("land 0", Worlds.empty().tax(0, 50000), 11000);
            due("land 3", Worlds.empty().tax(3, 50000), 11000);
        });
        Sentences.sentence("income: 0 to 10000000", () -> {
            Sentences.argument(0, 10000000, (x, income) -> x.tax(1, income));
            due("0", Worlds.empty().tax(1, 0), 0);
            due("10000000", Worlds.empty().tax(1, 10000000), 3991000);
        });
        Sentences.sentence(OUT_OF_RANGE, () -> {
            outOfRange(x -> x.tax(4, -1));
            outOfRange(x -> x.tax(0, -1));
            outOfRange(x -> x.tax(4, 0));
            outOfRange(x -> x.tax(LEAST, LEAST));
            outOfRange(x -> x.tax(MOST, MOST));
            outOfRange(x -> x.tax(3, 10000001));
            outOfRange(x -> x.tax(-1, 10000000));
        });
    }

    private static void grossTax() {
        Sentences.section("Promise 5: grossTax");
        Sentences.sentence("Returns the least number for which the tax of an income and this number together is this "
            + "number.", () -> {
            int[][] limits = {{0, 0}, {0, 30}, {30, 30}, {30, 60}, {100, 150}};
            int[][] rates = {{60, 60, 60}, {0, 60, 0}, {60, 0, 60}, {60, 0, 0}, {0, 0, 60}, {0, 0, 0}, {1, 2, 3}};
            for (int[] limit : limits) {
                for (int[] rate : rates) {
                    leastNumbers(limit, rate);
                }
            }
            TaxEqualiser x = new TaxEqualiser();
            due("at first of 50000", x.grossTax(0, 50000), 18332);
            due("at first of the most income", x.grossTax(0, 10000000), 6651666);
            x.setRates(0, 60, 60, 60);
            due("the greatest", x.grossTax(0, 10000000), 14999998);
            x.setLimits(0, 1000000, 1000000);
            x.setRates(0, 0, 60, 0);
            due("no rate that is reached", x.grossTax(0, 10000000), 0);
        });
        Sentences.sentence("land: 0 to 3", () -> {
            Sentences.argument(0, 3, (x, land) -> x.grossTax(land, 100));
            TaxEqualiser x = new TaxEqualiser();
            x.setRates(0, 0, 0, 0);
            x.setRates(3, 60, 60, 60);
            due("land 0", x.grossTax(0, 100), 0);
            due("land 3", x.grossTax(3, 100), 148);
        });
        Sentences.sentence("income: 0 to 10000000", () -> {
            Sentences.argument(0, 10000000, (x, income) -> x.grossTax(1, income));
            due("0", Worlds.empty().grossTax(1, 0), 0);
            due("10000000", Worlds.empty().grossTax(1, 10000000), 6651666);
        });
        Sentences.sentence(OUT_OF_RANGE, () -> {
            outOfRange(x -> x.grossTax(4, -1));
            outOfRange(x -> x.grossTax(0, -1));
            outOfRange(x -> x.grossTax(4, 0));
            outOfRange(x -> x.grossTax(LEAST, LEAST));
            outOfRange(x -> x.grossTax(MOST, MOST));
            outOfRange(x -> x.grossTax(3, 10000001));
            outOfRange(x -> x.grossTax(-1, 10000000));
        });
    }

    private static void leastNumbers(int[] limit, int[] rate) {
        for (int income = 0; income <= 200; income += income < 70 ? 1 : 13) {
            TaxEqualiser x = new TaxEqualiser();
            x.setLimits(2, limit[0], limit[1]);
            x.setRates(2, rate[0], rate[1], rate[2]);
            int least = 0;
            while (x.tax(2, income + least) != least) {
                least++;
            }
            due("gross tax of " + income, x.grossTax(2, income), least);
            due("gross tax by trying of " + income, x.grossTaxByTrying(2, income), least);
        }
    }

    private static void grossTaxByTrying() {
        Sentences.section("Promise 6: grossTaxByTrying");
        Sentences.sentence("Returns the same, told by trying all numbers.", () -> {
            TaxEqualiser x = new TaxEqualiser();
            due("no income", x.grossTaxByTrying(0, 0), 0);
            due("at first of the most income", x.grossTaxByTrying(0, 20000), 3749);
            x.setRates(0, 60, 60, 60);
            due("the least of several", x.grossTaxByTrying(0, 100), 148);
            due("the greatest", x.grossTaxByTrying(0, 20000), 29998);
            x.setRates(0, 0, 0, 0);
            due("no rate", x.grossTaxByTrying(0, 20000), 0);
            int[] incomes = {1, 2, 7499, 7500, 8999, 9000, 9001, 9999, 10000, 10001, 13333, 19999, 20000};
            for (int income : incomes) {
                x.setRates(3, 60, 0, 60);
                due("the same of " + income, x.grossTaxByTrying(3, income), x.grossTax(3, income));
                x.setRates(3, 0, 60, 1);
                due("the same of " + income, x.grossTaxByTrying(3, income), x.grossTax(3, income));
            }
        });
        Sentences.sentence("land: 0 to 3", () -> {
            Sentences.argument(0, 3, (x, land) -> x.grossTaxByTrying(land, 100));
            TaxEqualiser x = new TaxEqualiser();
            x.setRates(0, 0, 0, 0);
            x.setRates(3, 60, 60, 60);
            due("land 0", x.grossTaxByTrying(0, 100), 0);
            due("land 3", x.grossTaxByTrying(3, 100), 148);
        });
        Sentences.sentence("income: 0 to 20000", () -> {
            Sentences.argument(0, 20000, (x, income) -> x.grossTaxByTrying(1, income));
            due("0", Worlds.empty().grossTaxByTrying(1, 0), 0);
            due("20000", Worlds.empty().grossTaxByTrying(1, 20000), 3749);
        });
        Sentences.sentence(OUT_OF_RANGE, () -> {
            outOfRange(x -> x.grossTaxByTrying(4, -1));
            outOfRange(x -> x.grossTaxByTrying(0, -1));
            outOfRange(x -> x.grossTaxByTrying(4, 0));
            outOfRange(x -> x.grossTaxByTrying(LEAST, LEAST));
            outOfRange(x -> x.grossTaxByTrying(MOST, MOST));
            outOfRange(x -> x.grossTaxByTrying(3, 20001));
            outOfRange(x -> x.grossTaxByTrying(0, 10000000));
            outOfRange(x -> x.grossTaxByTrying(-1, 20000));
        });
    }

    // ---- people

    private static void add() {
        Sentences.section("Promise 7: add");
        Sentences.sentence("Adds a person.", () -> {
            TaxEqualiser x = new TaxEqualiser();
            x.add(3, 2, 3000);
            due("one more", x.people(), 1);
            x.setRates(3, 12, 12, 12);
            x.setRates(2, 0, 0, 0);
            due("with a home and a pay", x.homeTax(0), 4320);
            due("not abroad at first", x.setAbroad(0, 0, 12), 0);
            due("without a rent at first", x.hostIncome(0), 36000);
            due("with a host", x.hostTax(0), 0);
            Sentences.throwsOnly(Sentences.NONE_SUCH, x, y -> y.abroadPart(0, 0));
            x.add(3, 2, 3000);
            due("two alike", x.people(), 2);
        });
        Sentences.sentence("home: 0 to 3", () -> {
            Sentences.argument(0, 3, (x, home) -> x.add(home, 1, 100));
            Sentences.argument(0, 3, (x, home) -> x.add(home, 2, 100));
        });
        Sentences.sentence("host: 0 to 3, another land", () -> {
            Sentences.argument(0, 3, (x, host) -> x.add(1, host, 100));
            Sentences.argument(0, 3, (x, host) -> x.add(2, host, 100));
            for (int each = 0; each < 4; each++) {
                int land = each;
                outOfRange(x -> x.add(land, land, 100));
            }
        });
        Sentences.sentence("pay: 0 to 100000: in a month", () -> {
            Sentences.argument(0, 100000, (x, pay) -> x.add(0, 1, pay));
            due("0", Worlds.onePerson(0).homeIncome(0), 0);
            due("1", Worlds.onePerson(1).homeIncome(0), 12);
            due("100000", Worlds.onePerson(100000).homeIncome(0), 1200000);
        });
        Sentences.sentence("Returns the number of the person.", () -> {
            TaxEqualiser x = new TaxEqualiser();
            due("the first", x.add(0, 1, 7), 0);
            Sentences.throwsOnly(Sentences.RANGE, x, y -> y.add(1, 1, 7));
            due("none is lost by a throw", x.add(0, 1, 8), 1);
            due("the tenth", Worlds.ninePeople().add(0, 1, 9), 9);
            due("number 1 is the second", x.homeIncome(1), 96);
        });
        Sentences.sentence("Throws IllegalArgumentException if an argument is out of range, or both lands are the same",
            () -> {
                outOfRange(x -> x.add(4, 4, 100));
                outOfRange(x -> x.add(-1, -1, -1));
                outOfRange(x -> x.add(LEAST, MOST, 100));
                outOfRange(x -> x.add(0, 1, MOST));
                outOfRange(x -> x.add(0, 0, 0));
                outOfRange(x -> x.add(3, 3, 100000));
                Sentences.refused(Sentences.RANGE, Worlds::full, x -> x.add(2, 2, 5));
                Sentences.refused(Sentences.RANGE, Worlds::full, x -> x.add(2, 3, 100001));
            });
        Sentences.sentence("Throws IllegalStateException if there are 10", () -> {
            Sentences.accepted(Worlds::ninePeople, x -> x.add(0, 1, 5));
            Sentences.refused(Sentences.FULL, Worlds::full, x -> x.add(0, 1, 5));
            Sentences.refused(Sentences.FULL, Worlds::full, x -> x.add(3, 0, 100000));
            TaxEqualiser x = Worlds.full();
            Sentences.throwsOnly(Sentences.FULL, x, y -> y.add(0, 1, 5));
            Sentences.throwsOnly(Sentences.FULL, x, y -> y.add(0, 1, 5));
            due("still ten", x.people(), 10);
        });
    }

    private static void setAbroad() {
        Sentences.section("Promise 8: setAbroad");
        Sentences.sentence("Sets the months abroad.", () -> {
            TaxEqualiser x = Worlds.twoPeople();
            x.setAbroad(0, 0, 2);
            due("the new months alone", x.hostIncome(0), 2 * 3700 + 5000 * 2 / 6);
            due("not those of another", x.hostIncome(1), 100);
            x.setAbroad(0, 6, 6);
            due("none", x.hostIncome(0), 0);
            x.setAbroad(0, 0, 12);
            due("all", x.homeIncome(0), 0);
        });
        Sentences.sentence("from: 0 to 12", () -> {
            Sentences.argument(0, 12, (x, from) -> x.setAbroad(0, from, 12));
            due("0", abroadAndBack(0, 1), 1);
            due("12", abroadAndBack(12, 12), 0);
            due("11", abroadAndBack(11, 12), 1);
        });
        Sentences.sentence("to: from to 12", () -> {
            Sentences.argument(0, 12, (x, to) -> x.setAbroad(0, 0, to));
            Sentences.argument(5, 12, (x, to) -> x.setAbroad(0, 5, to));
            Sentences.argument(12, 12, (x, to) -> x.setAbroad(0, 12, to));
            due("as from", abroadAndBack(5, 5), 0);
            due("one above from", abroadAndBack(5, 6), 1);
            due("12", abroadAndBack(5, 12), 7);
        });
        Sentences.sentence("Returns how many months were abroad before.", () -> {
            TaxEqualiser x = Worlds.onePerson(100);
            due("none at first", x.setAbroad(0, 0, 12), 0);
            due("all", x.setAbroad(0, 11, 12), 12);
            due("one", x.setAbroad(0, 12, 12), 1);
            due("none, from 12", x.setAbroad(0, 0, 0), 0);
            due("none, from 0", x.setAbroad(0, 2, 9), 0);
            Sentences.throwsOnly(Sentences.RANGE, x, y -> y.setAbroad(0, 2, 13));
            due("seven, behind a refused call", x.setAbroad(0, 2, 9), 7);
            due("seven again", x.setAbroad(0, 2, 9), 7);
        });
        Sentences.sentence(NO_PERSON, () -> {
            Sentences.noSuchPerson((x, person) -> x.setAbroad(person, 0, 12));
            Sentences.refused(Sentences.NONE_SUCH, Worlds::twoPeople, x -> x.setAbroad(2, -1, 13));
        });
        Sentences.sentence("Throws IllegalArgumentException if from or to is out of range", () -> {
            outOfRange(x -> x.setAbroad(0, 13, 13));
            outOfRange(x -> x.setAbroad(0, -1, -1));
            outOfRange(x -> x.setAbroad(1, 6, 5));
            outOfRange(x -> x.setAbroad(1, 12, 0));
            outOfRange(x -> x.setAbroad(1, LEAST, MOST));
            outOfRange(x -> x.setAbroad(1, MOST, LEAST));
        });
    }

    private static int abroadAndBack(int from, int to) {
        TaxEqualiser x = Worlds.onePerson(100);
        x.setAbroad(0, from, to);
        return x.setAbroad(0, 0, 0);
    }

    private static void setPay() {
        Sentences.section("Promise 9: setPay");
        Sentences.sentence("Sets the pay, for all months.", () -> {
            TaxEqualiser x = Worlds.twoPeople();
            x.setPay(0, 4000);
            due("at home", x.homeIncome(0), 6 * 4000 + 2500 + 3);
            due("abroad, with the own share", x.hostIncome(0), 6 * (4000 + 600) + 2500 + 4);
            due("held", x.held(0, 8), (7000 + 3200) / 12);
            due("not that of another", x.homeIncome(1), 1100);
        });
        Sentences.sentence("pay: 0 to 100000", () -> {
            Sentences.argument(0, 100000, (x, pay) -> x.setPay(0, pay));
            TaxEqualiser x = Worlds.onePerson(5);
            x.setPay(0, 0);
            due("0", x.homeIncome(0), 0);
            x.setPay(0, 100000);
            due("100000", x.homeIncome(0), 1200000);
        });
        Sentences.sentence("Returns the pay before.", () -> {
            TaxEqualiser x = Worlds.onePerson(3000);
            due("as added", x.setPay(0, 0), 3000);
            due("0", x.setPay(0, 100000), 0);
            Sentences.throwsOnly(Sentences.RANGE, x, y -> y.setPay(0, 100001));
            due("100000, behind a refused call", x.setPay(0, 1), 100000);
            due("1", x.setPay(0, 1), 1);
        });
        Sentences.sentence(NO_PERSON, () -> {
            Sentences.noSuchPerson((x, person) -> x.setPay(person, 5));
            Sentences.refused(Sentences.NONE_SUCH, Worlds::twoPeople, x -> x.setPay(2, 100001));
        });
        Sentences.sentence("Throws IllegalArgumentException if pay is out of range", () -> {
            outOfRange(x -> x.setPay(0, -1));
            outOfRange(x -> x.setPay(1, 100001));
            outOfRange(x -> x.setPay(1, LEAST));
            outOfRange(x -> x.setPay(1, MOST));
        });
    }

    private static void setHousing() {
        Sentences.section("Promise 10: setHousing");
        Sentences.sentence("Sets the rent and the norm.", () -> {
            TaxEqualiser x = Worlds.twoPeople();
            x.setHousing(0, 2000, 20);
            due("the new ones alone", x.hostIncome(0), 6 * (3000 + 2000 - 600) + 2500 + 4);
            due("not those of another", x.hostIncome(1), 100);
            x.setHousing(0, 0, 0);
            due("none", x.hostIncome(0), 6 * 3000 + 2500 + 4);
            x.setPay(0, 100000);
            x.setHousing(0, 50000, 40);
            due("the most", x.hostIncome(0), 6 * (100000 + 10000) + 2500 + 4);
        });
        Sentences.sentence("rent: 0 to 50000", () -> {
            Sentences.argument(0, 50000, (x, rent) -> x.setHousing(0, rent, 10));
            due("0", hostIncomeWithHousing(0, 0), 6000);
            due("50000", hostIncomeWithHousing(50000, 0), 56000);
        });
        Sentences.sentence("norm: 0 to 40: percent of the pay", () -> {
            Sentences.argument(0, 40, (x, norm) -> x.setHousing(0, 1000, norm));
            due("0", hostIncomeWithHousing(5000, 0), 11000);
            due("1", hostIncomeWithHousing(5000, 1), 10940);
            due("40", hostIncomeWithHousing(5000, 40), 8600);
        });
        Sentences.sentence("Returns the own share of a month then.", () -> {
            TaxEqualiser x = Worlds.onePerson(3009);
            due("not abroad too", x.setHousing(0, 1000, 10), 300);
            due("as great as the rent", x.setHousing(0, 300, 10), 300);
            due("not more than the rent", x.setHousing(0, 299, 10), 299);
            due("no rent", x.setHousing(0, 0, 40), 0);
            due("no norm", x.setHousing(0, 50000, 0), 0);
            x.setPay(0, 100000);
            due("the most", x.setHousing(0, 50000, 40), 40000);
            x.setPay(0, 0);
            due("no pay", x.setHousing(0, 50000, 40), 0);
            x.setPay(0, 2);
            due("rounded to none", x.setHousing(0, 50000, 40), 0);
            x.setPay(0, 3);
            due("rounded to one", x.setHousing(0, 50000, 40), 1);
        });
        Sentences.sentence(NO_PERSON, () -> {
            Sentences.noSuchPerson((x, person) -> x.setHousing(person, 10, 1));
            Sentences.refused(Sentences.NONE_SUCH, Worlds::twoPeople, x -> x.setHousing(2, 50001, 41));
        });
        Sentences.sentence("Throws IllegalArgumentException if rent or norm is out of range", () -> {
            outOfRange(x -> x.setHousing(0, -1, 5));
            outOfRange(x -> x.setHousing(0, 50001, 5));
            outOfRange(x -> x.setHousing(1, 5, -1));
            outOfRange(x -> x.setHousing(1, 5, 41));
            outOfRange(x -> x.setHousing(1, LEAST, LEAST));
            outOfRange(x -> x.setHousing(1, MOST, MOST));
        });
    }

    private static int hostIncomeWithHousing(int rent, int norm) {
        TaxEqualiser x = Worlds.onePerson(6000);
        x.setAbroad(0, 4, 5);
        x.setHousing(0, rent, norm);
        return x.hostIncome(0);
    }

    private static void addBonus() {
        Sentences.section("Promise 11: addBonus");
        Sentences.sentence("Tells a bonus.", () -> {
            TaxEqualiser x = Worlds.onePerson(100);
            x.addBonus(0, 10, 0, 5);
            x.setAbroad(0, 0, 4);
            due("abroad", x.hostIncome(0), 400 + 8);
            due("at home", x.homeIncome(0), 800 + 2);
            x.addBonus(0, 10, 0, 5);
            due("two alike", x.hostIncome(0), 400 + 16);
        });
        Sentences.sentence("The bonuses of a person are numbered from 0.", () -> {
            TaxEqualiser x = Worlds.twoPeople();
            due("the first of another person", x.addBonus(1, 10, 0, 1), 0);
            due("the next of the one", x.addBonus(0, 20, 4, 5), 2);
            due("number 0 of the one", x.abroadPart(0, 0), 2500);
            due("number 2 of the one", x.abroadPart(0, 2), 20);
            due("number 0 of another", x.abroadPart(1, 0), 10);
        });
        Sentences.sentence("coins: 1 to 500000", () -> {
            Sentences.argument(1, 500000, (x, coins) -> x.addBonus(0, coins, 3, 6));
            due("1", incomeWithBonus(1, 0, 12), 1);
            due("500000", incomeWithBonus(500000, 0, 12), 500000);
        });
        Sentences.sentence("from: 0 to 11", () -> {
            Sentences.argument(0, 11, (x, from) -> x.addBonus(0, 5, from, 12));
            due("0", partAbroadInMonth(0, 0, 1), 1000);
            due("11", partAbroadInMonth(11, 11, 12), 1000);
            outOfRange(x -> x.addBonus(0, 5, 12, 12));
            outOfRange(x -> x.addBonus(0, 5, MOST, LEAST));
        });
        Sentences.sentence("to: from + 1 to 12", () -> {
            Sentences.argument(1, 12, (x, to) -> x.addBonus(0, 5, 0, to));
            Sentences.argument(6, 12, (x, to) -> x.addBonus(0, 5, 5, to));
            Sentences.argument(12, 12, (x, to) -> x.addBonus(0, 5, 11, to));
            due("one above from", partAbroadInMonth(5, 5, 6), 1000);
            due("two above from", partAbroadInMonth(5, 5, 7), 500);
            due("12", partAbroadInMonth(11, 2, 12), 100);
        });
        Sentences.sentence("Returns its number.", () -> {
            TaxEqualiser x = Worlds.onePerson(100);
            for (int i = 0; i < 6; i++) {
                Sentences.throwsOnly(Sentences.RANGE, x, y -> y.addBonus(0, 0, 0, 1));
                due("none is lost by a throw", x.addBonus(0, 5, i, i + 1), i);
            }
        });
        Sentences.sentence(NO_PERSON, () -> {
            Sentences.noSuchPerson((x, person) -> x.addBonus(person, 5, 0, 12));
            Sentences.refused(Sentences.NONE_SUCH, Worlds::twoPeople, x -> x.addBonus(2, 0, 12, 12));
        });
        Sentences.sentence("Throws IllegalArgumentException if coins, from or to is out of range", () -> {
            outOfRange(x -> x.addBonus(0, 0, 0, 12));
            outOfRange(x -> x.addBonus(0, 500001, 0, 12));
            outOfRange(x -> x.addBonus(0, 5, -1, 12));
            outOfRange(x -> x.addBonus(0, 5, 12, 13));
            outOfRange(x -> x.addBonus(1, 5, 7, 7));
            outOfRange(x -> x.addBonus(1, 5, 7, 6));
            outOfRange(x -> x.addBonus(1, 5, 7, 13));
            outOfRange(x -> x.addBonus(1, LEAST, LEAST, LEAST));
            outOfRange(x -> x.addBonus(1, MOST, MOST, MOST));
            Sentences.refused(Sentences.RANGE, Worlds::full, x -> x.addBonus(0, 0, 0, 12));
        });
        Sentences.sentence("Throws IllegalStateException if the person has 6 bonuses", () -> {
            Sentences.accepted(Worlds::ninePeople, x -> x.addBonus(0, 5, 0, 12));
            Sentences.refused(Sentences.FULL, Worlds::full, x -> x.addBonus(0, 5, 0, 12));
            TaxEqualiser x = Worlds.full();
            Sentences.throwsOnly(Sentences.FULL, x, y -> y.addBonus(0, 5, 0, 12));
            Sentences.throwsOnly(Sentences.FULL, x, y -> y.addBonus(0, 5, 0, 12));
            due("another has room", x.addBonus(1, 5, 0, 12), 0);
        });
    }

    private static int incomeWithBonus(int coins, int from, int to) {
        TaxEqualiser x = Worlds.onePerson(0);
        x.addBonus(0, coins, from, to);
        return x.homeIncome(0);
    }

    private static int partAbroadInMonth(int month, int from, int to) {
        TaxEqualiser x = Worlds.onePerson(0);
        x.addBonus(0, 1000, from, to);
        x.setAbroad(0, month, month + 1);
        return x.abroadPart(0, 0);
    }

    private static void people() {
        Sentences.section("Promise 12: people");
        Sentences.sentence("Returns the number of people.", () -> {
            TaxEqualiser x = new TaxEqualiser();
            due("none", x.people(), 0);
            for (int i = 1; i <= 10; i++) {
                x.add(0, 1, 5);
                due("some", x.people(), i);
            }
            Sentences.throwsOnly(Sentences.FULL, x, y -> y.add(0, 1, 5));
            due("ten", x.people(), 10);
        });
    }

    private static void abroadPart() {
        Sentences.section("Promise 13: abroadPart");
        Sentences.sentence("Returns the abroad part of a bonus.", () -> {
            TaxEqualiser x = Worlds.onePerson(0);
            x.addBonus(0, 500000, 0, 12);
            x.addBonus(0, 1, 0, 12);
            x.addBonus(0, 100, 4, 7);
            due("none abroad", x.abroadPart(0, 0), 0);
            x.setAbroad(0, 0, 12);
            due("all abroad", x.abroadPart(0, 0), 500000);
            due("the least bonus", x.abroadPart(0, 1), 1);
            x.setAbroad(0, 1, 12);
            due("500000 of eleven months", x.abroadPart(0, 0), 458333);
            due("rounded to none", x.abroadPart(0, 1), 0);
            x.setAbroad(0, 0, 2);
            due("back long before it begins", x.abroadPart(0, 2), 0);
            x.setAbroad(0, 9, 12);
            due("sent long after it ends", x.abroadPart(0, 2), 0);
            x.setAbroad(0, 0, 4);
            due("back as it begins", x.abroadPart(0, 2), 0);
            x.setAbroad(0, 0, 5);
            due("back a month later", x.abroadPart(0, 2), 33);
            x.setAbroad(0, 6, 12);
            due("sent in its last month", x.abroadPart(0, 2), 33);
            x.setAbroad(0, 7, 12);
            due("sent as it ends", x.abroadPart(0, 2), 0);
            x.setAbroad(0, 5, 5);
            due("none within", x.abroadPart(0, 2), 0);
        });
        Sentences.sentence("Throws IndexOutOfBoundsException if there is no such person or bonus", () -> {
            Sentences.refusedWithoutPerson((x, person) -> x.abroadPart(person, 0));
            int[] none = {-1, 2, 5, 6, LEAST, MOST};
            for (int bonus : none) {
                Sentences.refused(Sentences.NONE_SUCH, Worlds::twoPeople, x -> x.abroadPart(0, bonus));
            }
            Sentences.accepted(Worlds::twoPeople, x -> x.abroadPart(0, 1));
            Sentences.refused(Sentences.NONE_SUCH, Worlds::twoPeople, x -> x.abroadPart(1, 0));
            Sentences.accepted(Worlds::full, x -> x.abroadPart(0, 5));
            Sentences.refused(Sentences.NONE_SUCH, Worlds::full, x -> x.abroadPart(0, 6));
            Sentences.refused(Sentences.NONE_SUCH, Worlds::full, x -> x.abroadPart(10, 6));
        });
    }

    // ---- taxes and settlements

    private static void held() {
        Sentences.section("Promise 14: held");
        Sentences.sentence("Returns what is held back as supposed tax in a month; 0 in a month that is not "
            + "abroad.", () -> {
            TaxEqualiser x = Worlds.twoPeople();
            due("the month ahead", x.held(0, 2), 0);
            due("the first", x.held(0, 3), 516);
            due("the last", x.held(0, 8), 516);
            due("the month behind", x.held(0, 9), 0);
            x.setAbroad(0, 9, 9);
            due("none", x.held(0, 9), 0);
            due("the greatest", Worlds.greatest(0, 12).held(0, 11), 60000);
            due("the least", Worlds.onePerson(0).held(0, 0), 0);
        });
        Sentences.sentence("month: 0 to 11", () -> {
            Sentences.argument(0, 11, (x, month) -> x.held(0, month));
            Sentences.argument(0, 11, (x, month) -> x.held(1, month));
            due("month 0", Worlds.greatest(0, 1).held(0, 0), 60000);
            due("month 11", Worlds.greatest(11, 12).held(0, 11), 60000);
        });
        Sentences.sentence(NO_PERSON, () -> {
            Sentences.noSuchPerson((x, person) -> x.held(person, 0));
            Sentences.refused(Sentences.NONE_SUCH, Worlds::twoPeople, x -> x.held(2, 12));
        });
        Sentences.sentence("Throws IllegalArgumentException if month is out of range", () -> {
            outOfRange(x -> x.held(0, -1));
            outOfRange(x -> x.held(1, 12));
            outOfRange(x -> x.held(1, LEAST));
            outOfRange(x -> x.held(1, MOST));
        });
    }

    private static void supposedTax() {
        Sentences.section("Promise 15: supposedTax");
        Sentences.sentence("Returns the supposed tax.", () -> {
            due("the least", Worlds.onePerson(0).supposedTax(0), 0);
            due("the greatest", Worlds.greatest(0, 0).supposedTax(0), 2520000);
            due("the greatest abroad", Worlds.greatest(0, 12).supposedTax(0), 2520000);
        });
        Sentences.sentence(NO_PERSON, () -> Sentences.noSuchPerson((x, person) -> x.supposedTax(person)));
    }

    private static void homeIncome() {
        Sentences.section("Promise 16: homeIncome");
        Sentences.sentence("Returns the home income.", () -> {
            due("the least", Worlds.onePerson(0).homeIncome(0), 0);
            due("the greatest", Worlds.greatest(0, 0).homeIncome(0), 4200000);
            due("none at home", Worlds.greatest(0, 12).homeIncome(0), 0);
            due("one month at home", Worlds.greatest(0, 11).homeIncome(0), 100000 + 6 * 41667);
        });
        Sentences.sentence(NO_PERSON, () -> Sentences.noSuchPerson((x, person) -> x.homeIncome(person)));
    }

    private static void homeTax() {
        Sentences.section("Promise 17: homeTax");
        Sentences.sentence("Returns the home tax.", () -> {
            due("of no whole income", Worlds.onePerson(0).homeTax(0), 0);
            due("the greatest", Worlds.greatest(0, 0).homeTax(0), 2520000);
            due("none at home", Worlds.greatest(0, 12).homeTax(0), 0);
            // 60 percent of 100000 + 6 * 41667
            due("one month at home", Worlds.greatest(0, 11).homeTax(0), 210001);
            // 60 percent of 1100000 + 6 * 458334
            due("one month abroad", Worlds.greatest(0, 1).homeTax(0), 2310002);
        });
        Sentences.sentence(NO_PERSON, () -> Sentences.noSuchPerson((x, person) -> x.homeTax(person)));
    }

    private static void hostIncome() {
        Sentences.section("Promise 18: hostIncome");
        Sentences.sentence("Returns the host income.", () -> {
            due("the least", Worlds.onePerson(0).hostIncome(0), 0);
            due("none abroad", Worlds.greatest(0, 0).hostIncome(0), 0);
            due("the greatest", Worlds.greatest(0, 12).hostIncome(0), 4800000);
            due("one month abroad", Worlds.greatest(11, 12).hostIncome(0), 150000 + 6 * 41666);
        });
        Sentences.sentence(NO_PERSON, () -> Sentences.noSuchPerson((x, person) -> x.hostIncome(person)));
    }

    private static void hostTax() {
        Sentences.section("Promise 19: hostTax");
        Sentences.sentence("Returns the host tax.", () -> {
            due("the least", Worlds.onePerson(0).hostTax(0), 0);
            due("none abroad", Worlds.greatest(0, 0).hostTax(0), 0);
            due("the greatest", Worlds.greatest(0, 12).hostTax(0), 7199998);
        });
        Sentences.sentence(NO_PERSON, () -> Sentences.noSuchPerson((x, person) -> x.hostTax(person)));
    }

    private static void borne() {
        Sentences.section("Promise 20: borne");
        Sentences.sentence("Returns what the person has borne.", () -> {
            due("the least", Worlds.onePerson(0).borne(0), 0);
            due("the greatest", Worlds.greatest(0, 0).borne(0), 2520000);
            due("one month abroad", Worlds.greatest(0, 1).borne(0), 60000 + 2310002);
            due("all abroad", Worlds.greatest(0, 12).borne(0), 720000);
        });
        Sentences.sentence(NO_PERSON, () -> Sentences.noSuchPerson((x, person) -> x.borne(person)));
    }

    private static void settlement() {
        Sentences.section("Promise 21: settlement");
        Sentences.sentence("Returns the settlement.", () -> {
            due("none", Worlds.onePerson(0).settlement(0), 0);
            due("none at home", Worlds.greatest(0, 0).settlement(0), 0);
            due("far above 0", Worlds.greatest(0, 12).settlement(0), 1800000);
            due("one above 0", oneCoinOwed().settlement(0), 1);
            due("far below 0", greatlyOwedByFirm().settlement(0), 600000 - 11 * 50000 - 442857);
        });
        Sentences.sentence(NO_PERSON, () -> Sentences.noSuchPerson((x, person) -> x.settlement(person)));
    }

    // The tax of the year is 13, of which 12 are held.
    private static TaxEqualiser oneCoinOwed() {
        TaxEqualiser x = Worlds.onePerson(11);
        x.setAbroad(0, 0, 12);
        return x;
    }

    // 600000 of tax on whatever is above a million; 3100000 of 4200000 are earned at home.
    private static TaxEqualiser greatlyOwedByFirm() {
        TaxEqualiser x = Worlds.onePerson(100000);
        x.setLimits(0, 1000000, 1000000);
        x.setRates(0, 60, 0, 0);
        for (int i = 0; i < 6; i++) {
            x.addBonus(0, 500000, 0, 1);
        }
        x.setAbroad(0, 1, 12);
        return x;
    }

    private static void cost() {
        Sentences.section("Promise 22: cost");
        Sentences.sentence("Returns the cost of the firm for a person.", () -> {
            due("none", Worlds.onePerson(0).cost(0), 0);
            due("none at home", Worlds.greatest(0, 0).cost(0), 0);
            TaxEqualiser x = Worlds.greatest(0, 12);
            due("far above 0", x.cost(0), 7199998 + 600000 - 720000 - 1800000);
            x.setRates(1, 0, 0, 0);
            x.setHousing(0, 0, 0);
            due("far below 0", x.cost(0), -2520000);
            TaxEqualiser y = greatlyOwedByFirm();
            y.setRates(1, 0, 0, 0);
            due("with a settlement below 0", y.cost(0), 442857 - 600000);
        });
        Sentences.sentence(NO_PERSON, () -> Sentences.noSuchPerson((x, person) -> x.cost(person)));
    }

    private static void dearest() {
        Sentences.section("Promise 23: dearest");
        Sentences.sentence("Returns the person with the greatest cost, of several the one with the lowest number; -1 "
            + "without people.", () -> {
            TaxEqualiser x = new TaxEqualiser();
            due("without people", x.dearest(), -1);
            Sentences.throwsOnly(Sentences.RANGE, x, y -> y.add(0, 0, 5));
            due("without people still", x.dearest(), -1);
            for (int i = 0; i < 10; i++) {
                x.add(0, 1, 3000);
                due("all of 0", x.dearest(), 0);
            }
            x.setAbroad(9, 0, 12);
            due("the last", x.dearest(), 9);
            x.setAbroad(4, 0, 12);
            due("the lower of two", x.dearest(), 4);
            x.setAbroad(0, 0, 12);
            due("the lowest of three", x.dearest(), 0);
            x.setHousing(9, 1, 0);
            due("one that is greater", x.dearest(), 9);
            x.setHousing(9, 0, 0);
            x.setRates(1, 0, 0, 0);
            due("0 above those below 0", x.dearest(), 1);
            for (int i = 1; i < 10; i++) {
                x.setAbroad(i, 0, 12);
            }
            due("all alike below 0", x.dearest(), 0);
            x.setPay(7, 2999);
            due("one that is less far below 0", x.dearest(), 7);
            TaxEqualiser y = Worlds.onePerson(3000);
            y.setRates(1, 0, 0, 0);
            y.setAbroad(0, 0, 12);
            due("one alone below 0", y.dearest(), 0);
        });
    }
}
