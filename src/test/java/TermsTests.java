/** Each sentence of the document ahead of the promises, and behind them, that names a boundary case. */
public final class TermsTests {
    private TermsTests() {
    }

    public static void main(String[] args) {
        whatItIs();
        terms();
        lands();
        people();
        taxes();
        settlement();
        notPromised();
        Sentences.runAll("Promise ", false);
    }

    // ---- What it is

    private static void whatItIs() {
        Sentences.section("What it is");
        Sentences.namesNoBoundary("A tax equaliser for staff sent abroad: lands with bands of tax, a supposed home tax "
            + "that is held back, housing by a norm with an own share, host tax that the firm pays and that is "
            + "income itself, years begun and ended in the midst, bonuses earned across both lands, relief by "
            + "progression, and the settlement of a year.");
        Sentences.sentence("An object is used for at most 512 calls after it has been made; what later calls "
            + "answer is free.", TermsTests::theLastCallIsRight);
    }

    private static void theLastCallIsRight() {
        TaxEqualiser x = new TaxEqualiser();
        x.add(0, 1, 3000);
        for (int call = 2; call < 512; call++) {
            Sentences.due("call " + call, x.setAbroad(0, 0, call % 13), call == 2 ? 0 : (call - 1) % 13);
        }
        Sentences.due("call 512", x.homeIncome(0), (12 - 511 % 13) * 3000);
        TaxEqualiser y = new TaxEqualiser();
        for (int call = 1; call < 512; call++) {
            Sentences.throwsOnly(Sentences.RANGE, y, z -> z.add(2, 2, 5));
        }
        Sentences.due("call 512 behind refused ones", y.add(0, 1, 5), 0);
    }

    // ---- Terms

    private static void terms() {
        Sentences.section("Terms");
        Sentences.namesNoBoundary("Lands are set up, people are sent and come back, bonuses and rents are told, for "
            + "one year; what is held, taxes, gross-ups and settlements can be asked for.");
        Sentences.sentence("The year has the months 0 to 11.", TermsTests::monthsOfTheYear);
        Sentences.sentence("Amounts are whole coins.", TermsTests::noCoinIsSplitOrLost);
        Sentences.sentence("Divisions are rounded down, also below 0.", TermsTests::everyDivisionIsRoundedDown);
        Sentences.sentence("A method throws IndexOutOfBoundsException if there is no such person or bonus, "
            + "IllegalArgumentException if another argument is out of range, and IllegalStateException as it "
            + "documents; if several apply, the one that it lists first is thrown.",
            TermsTests::theFirstListedIsThrown);
        Sentences.sentence("A call that throws changes nothing.", TermsTests::refusedCallsChangeNothing);
    }

    private static void monthsOfTheYear() {
        TaxEqualiser x = Worlds.onePerson(3000);
        Sentences.due("twelve months of pay", x.homeIncome(0), 36000);
        x.setAbroad(0, 0, 1);
        Sentences.due("month 0", x.held(0, 0), 516);
        Sentences.due("eleven months of pay", x.homeIncome(0), 33000);
        x.setAbroad(0, 11, 12);
        Sentences.due("month 11", x.held(0, 11), 516);
        x.setAbroad(0, 0, 12);
        Sentences.due("no months of pay", x.homeIncome(0), 0);
        Sentences.refused(Sentences.RANGE, Worlds::twoPeople, y -> y.held(0, -1));
        Sentences.refused(Sentences.RANGE, Worlds::twoPeople, y -> y.held(0, 12));
        Sentences.refused(Sentences.RANGE, Worlds::twoPeople, y -> y.setAbroad(0, 12, 13));
        Sentences.refused(Sentences.RANGE, Worlds::twoPeople, y -> y.addBonus(0, 1, 12, 13));
    }

    private static void noCoinIsSplitOrLost() {
        TaxEqualiser x = Worlds.onePerson(0);
        x.addBonus(0, 1, 0, 12);
        x.setAbroad(0, 0, 11);
        Sentences.due("no whole coin abroad", x.abroadPart(0, 0), 0);
        Sentences.due("so it is earned at home", x.homeIncome(0), 1);
        x.setAbroad(0, 0, 12);
        Sentences.due("a whole coin abroad", x.abroadPart(0, 0), 1);
        Sentences.due("and none at home", x.homeIncome(0), 0);
        x.addBonus(0, 7, 0, 2);
        x.setAbroad(0, 0, 1);
        Sentences.due("3 of 7", x.hostIncome(0), 3);
        Sentences.due("4 of 7 and the first coin", x.homeIncome(0), 5);
    }

    private static void everyDivisionIsRoundedDown() {
        TaxEqualiser x = new TaxEqualiser();
        x.setRates(0, 33, 33, 33);
        Sentences.due("tax, 0.99", x.tax(0, 3), 0);
        Sentences.due("tax, 1.98", x.tax(0, 6), 1);
        x.add(0, 1, 199);
        Sentences.due("own share, 1.99", x.setHousing(0, 500, 1), 1);
        x.setAbroad(0, 0, 11);
        // 12 * 199 * 33 / 100 is 788.04, and 788 / 12 is 65.67.
        Sentences.due("held", x.held(0, 0), 65);
        x.addBonus(0, 1000, 0, 12);
        Sentences.due("abroad part, 916.67", x.abroadPart(0, 0), 916);
        // 33 percent of 3388 is 1118.04; 1118 * (199 + 84) / 3388 is 93.39.
        Sentences.due("home tax, 93.39", x.homeTax(0), 93);
        x.setAbroad(0, 0, 1);
        // 1118 * (2189 + 917) / 3388 is 1024.94.
        Sentences.due("home tax, 1024.94", x.homeTax(0), 1024);
        TaxEqualiser y = Worlds.owedByFirm(3001);
        // 18000 - 11 * 1500 - 9748, where 18000 * 39001 / 72012 is 9748.63.
        Sentences.due("settlement, below 0", y.settlement(0), -8248);
        y.setRates(1, 0, 0, 0);
        Sentences.due("cost, below 0", y.cost(0), -11 * 1500 + 8248);
    }

    private static void theFirstListedIsThrown() {
        Worlds.Maker full = Worlds::full;
        Sentences.refused(Sentences.RANGE, full, x -> x.add(4, 0, 5));
        Sentences.refused(Sentences.RANGE, full, x -> x.add(0, 4, 5));
        Sentences.refused(Sentences.RANGE, full, x -> x.add(1, 1, 5));
        Sentences.refused(Sentences.RANGE, full, x -> x.add(0, 1, -1));
        Sentences.refused(Sentences.NONE_SUCH, full, x -> x.setAbroad(10, 13, 0));
        Sentences.refused(Sentences.NONE_SUCH, full, x -> x.setPay(10, -1));
        Sentences.refused(Sentences.NONE_SUCH, full, x -> x.setHousing(10, -1, 41));
        Sentences.refused(Sentences.NONE_SUCH, full, x -> x.addBonus(10, 0, 12, 12));
        Sentences.refused(Sentences.NONE_SUCH, full, x -> x.addBonus(-1, 1, 0, 1));
        Sentences.refused(Sentences.RANGE, full, x -> x.addBonus(0, 0, 0, 1));
        Sentences.refused(Sentences.RANGE, full, x -> x.addBonus(0, 1, 12, 13));
        Sentences.refused(Sentences.RANGE, full, x -> x.addBonus(0, 1, 3, 3));
        Sentences.refused(Sentences.NONE_SUCH, full, x -> x.abroadPart(10, 6));
        Sentences.refused(Sentences.NONE_SUCH, full, x -> x.held(10, 12));
        Sentences.refused(Sentences.FULL, full, x -> x.add(0, 1, 5));
        Sentences.refused(Sentences.FULL, full, x -> x.addBonus(0, 1, 0, 1));
    }

    // Where one argument is right and a later one is wrong, the right one is not kept.
    private static void refusedCallsChangeNothing() {
        Worlds.Maker two = Worlds::twoPeople;
        Sentences.refused(Sentences.RANGE, two, x -> x.setLimits(0, 5, 4));
        Sentences.refused(Sentences.RANGE, two, x -> x.setLimits(0, -1, 5));
        Sentences.refused(Sentences.RANGE, two, x -> x.setRates(0, 1, 2, 61));
        Sentences.refused(Sentences.RANGE, two, x -> x.setRates(0, 1, -1, 3));
        Sentences.refused(Sentences.RANGE, two, x -> x.setRates(0, 61, 2, 3));
        Sentences.refused(Sentences.RANGE, two, x -> x.add(0, 1, 100001));
        Sentences.refused(Sentences.RANGE, two, x -> x.setAbroad(0, 5, 4));
        Sentences.refused(Sentences.RANGE, two, x -> x.setAbroad(0, 5, 13));
        Sentences.refused(Sentences.RANGE, two, x -> x.setAbroad(0, -1, 10));
        Sentences.refused(Sentences.RANGE, two, x -> x.setPay(0, 100001));
        Sentences.refused(Sentences.RANGE, two, x -> x.setHousing(0, 5, 41));
        Sentences.refused(Sentences.RANGE, two, x -> x.setHousing(0, -1, 0));
        Sentences.refused(Sentences.RANGE, two, x -> x.addBonus(0, 9, 5, 13));
        Sentences.refused(Sentences.FULL, Worlds::full, x -> x.add(0, 1, 5));
        Sentences.refused(Sentences.FULL, Worlds::full, x -> x.addBonus(0, 9, 0, 1));
    }

    // ---- Lands

    private static void lands() {
        Sentences.section("Lands");
        Sentences.sentence("There are the lands 0 to 3.", TermsTests::fourLands);
        Sentences.sentence("A land has two limits and three rates in percent: the tax of an income is the part up to "
            + "the lower limit times the first rate, plus the part above it up to the upper limit times the second "
            + "rate, plus the part above the upper limit times the third rate, all divided by 100 together.",
            TermsTests::bandsMeetAtTheLimits);
        Sentences.sentence("At first the limits are 10000 and 40000, the rates 10, 20 and 40.",
            TermsTests::landsAtFirst);
    }

    private static void fourLands() {
        TaxEqualiser x = new TaxEqualiser();
        for (int land = 0; land < 4; land++) {
            x.setRates(land, 10 * land + 5, 0, 0);
        }
        for (int land = 0; land < 4; land++) {
            Sentences.due("land " + land + " for itself", x.tax(land, 100), 10 * land + 5);
        }
        int[] none = {-1, 4};
        for (int land : none) {
            Sentences.refused(Sentences.RANGE, Worlds::twoPeople, y -> y.setLimits(land, 1, 2));
            Sentences.refused(Sentences.RANGE, Worlds::twoPeople, y -> y.setRates(land, 1, 2, 3));
            Sentences.refused(Sentences.RANGE, Worlds::twoPeople, y -> y.tax(land, 100));
            Sentences.refused(Sentences.RANGE, Worlds::twoPeople, y -> y.grossTax(land, 100));
            Sentences.refused(Sentences.RANGE, Worlds::twoPeople, y -> y.grossTaxByTrying(land, 100));
            Sentences.refused(Sentences.RANGE, Worlds::twoPeople, y -> y.add(land, 1, 100));
            Sentences.refused(Sentences.RANGE, Worlds::twoPeople, y -> y.add(1, land, 100));
        }
    }

    private static void bandsMeetAtTheLimits() {
        TaxEqualiser x = new TaxEqualiser();
        x.setLimits(2, 100, 200);
        x.setRates(2, 0, 60, 0);
        Sentences.due("up to the lower limit", x.tax(2, 100), 0);
        Sentences.due("one above it, 0.6", x.tax(2, 101), 0);
        Sentences.due("two above it, 1.2", x.tax(2, 102), 1);
        Sentences.due("one below the upper limit, 59.4", x.tax(2, 199), 59);
        Sentences.due("up to the upper limit", x.tax(2, 200), 60);
        Sentences.due("above the upper limit", x.tax(2, 300), 60);
        x.setRates(2, 60, 0, 60);
        Sentences.due("one below the lower limit, 59.4", x.tax(2, 99), 59);
        Sentences.due("up to the lower limit in the first band", x.tax(2, 100), 60);
        Sentences.due("no more up to the upper limit", x.tax(2, 200), 60);
        Sentences.due("one above the upper limit, 60.6", x.tax(2, 201), 60);
        Sentences.due("two above the upper limit, 61.2", x.tax(2, 202), 61);
        x.setRates(2, 10, 20, 30);
        x.setLimits(2, 0, 100);
        Sentences.due("an empty first band", x.tax(2, 200), 20 + 30);
        x.setLimits(2, 100, 100);
        Sentences.due("an empty second band", x.tax(2, 200), 10 + 30);
        x.setLimits(2, 0, 0);
        Sentences.due("the third band alone", x.tax(2, 200), 60);
        Sentences.due("no income", x.tax(2, 0), 0);
        x.setLimits(2, 15, 25);
        x.setRates(2, 10, 15, 10);
        Sentences.due("1.5, 1.5 and 1 together", x.tax(2, 35), 4);
    }

    private static void landsAtFirst() {
        for (int land = 0; land < 4; land++) {
            TaxEqualiser x = new TaxEqualiser();
            Sentences.due("in the first band", x.tax(land, 9999), 999);
            Sentences.due("at the lower limit", x.tax(land, 10000), 1000);
            Sentences.due("4 above it", x.tax(land, 10004), 1000);
            Sentences.due("5 above it", x.tax(land, 10005), 1001);
            Sentences.due("at the upper limit", x.tax(land, 40000), 7000);
            Sentences.due("2 above it", x.tax(land, 40002), 7000);
            Sentences.due("3 above it", x.tax(land, 40003), 7001);
            Sentences.due("in the third band", x.tax(land, 140000), 47000);
            x.setRates(land, 60, 0, 60);
            Sentences.due("the lower limit is 10000", x.tax(land, 40000), 6000);
            Sentences.due("the upper limit is 40000", x.tax(land, 40005), 6003);
        }
    }

    // ---- People

    private static void people() {
        Sentences.section("People");
        Sentences.sentence("People are numbered from 0; there are at most 10.", TermsTests::tenPeopleFromZero);
        Sentences.sentence("A person has a home and a host, which are different lands, and a monthly pay.",
            TermsTests::homeAndHostDiffer);
        Sentences.sentence("In the months from one to another one, that one not included, the person is abroad; at "
            + "first in none.", TermsTests::monthsAbroadEndBeforeTheLast);
        Sentences.sentence("In each month abroad the firm pays a rent, 0 at first, and holds back the person's own "
            + "share, which is a norm in percent of the pay, 0 at first, but not more than the rent; and the firm "
            + "holds back the supposed tax of a month, which is the home tax of 12 times the pay, divided by 12.",
            TermsTests::rentAndOwnShareOfAMonth);
        Sentences.sentence("A bonus is paid with a number of coins, and earned in the months from one to another "
            + "one, that one not included; the abroad part of it is its coins times how many of these months are "
            + "abroad, divided by how many there are.", TermsTests::abroadPartOfEachBonus);
    }

    private static void tenPeopleFromZero() {
        TaxEqualiser x = new TaxEqualiser();
        Sentences.refused(Sentences.NONE_SUCH, Worlds::empty, y -> y.homeIncome(0));
        for (int i = 0; i < 10; i++) {
            Sentences.due("number", x.add(i % 4, (i + 1) % 4, i + 1), i);
        }
        for (int i = 0; i < 10; i++) {
            Sentences.due("person " + i, x.homeIncome(i), 12 * (i + 1));
        }
        Sentences.refused(Sentences.FULL, Worlds::full, y -> y.add(0, 1, 5));
        Sentences.refused(Sentences.NONE_SUCH, Worlds::full, y -> y.homeIncome(10));
    }

    private static void homeAndHostDiffer() {
        for (int home = 0; home < 4; home++) {
            for (int host = 0; host < 4; host++) {
                if (home == host) {
                    int land = home;
                    Sentences.refused(Sentences.RANGE, Worlds::twoPeople, x -> x.add(land, land, 100));
                } else {
                    homeAndHostHaveTheirParts(home, host);
                }
            }
        }
    }

    private static void homeAndHostHaveTheirParts(int home, int host) {
        TaxEqualiser x = new TaxEqualiser();
        for (int land = 0; land < 4; land++) {
            x.setRates(land, 0, 0, 0);
        }
        x.setRates(home, 12, 12, 12);
        x.setRates(host, 50, 50, 50);
        x.add(home, host, 100);
        Sentences.due("home tax of " + home, x.supposedTax(0), 144);
        x.setAbroad(0, 0, 12);
        Sentences.due("host tax of " + host, x.hostTax(0), 1199);
    }

    private static void monthsAbroadEndBeforeTheLast() {
        TaxEqualiser first = Worlds.onePerson(3000);
        for (int month = 0; month < 12; month++) {
            Sentences.due("at first in month " + month, first.held(0, month), 0);
        }
        Sentences.due("at first", first.hostIncome(0), 0);
        for (int from = 0; from <= 12; from++) {
            for (int to = from; to <= 12; to++) {
                monthsAbroadAre(from, to);
            }
        }
    }

    private static void monthsAbroadAre(int from, int to) {
        TaxEqualiser x = Worlds.onePerson(3000);
        x.setAbroad(0, from, to);
        for (int month = 0; month < 12; month++) {
            boolean abroad = month >= from && month < to;
            Sentences.due(from + " to " + to + ", month " + month, x.held(0, month), abroad ? 516 : 0);
        }
        Sentences.due(from + " to " + to, x.hostIncome(0), 3000 * (to - from));
    }

    private static void rentAndOwnShareOfAMonth() {
        TaxEqualiser x = Worlds.onePerson(3000);
        x.setAbroad(0, 0, 1);
        Sentences.due("no rent at first", x.hostIncome(0), 3000);
        Sentences.due("no rent at first, cost", x.cost(0), x.hostTax(0) - 516 - x.settlement(0));
        Sentences.due("a share below the rent", x.setHousing(0, 301, 10), 300);
        Sentences.due("what is left of the rent", x.hostIncome(0), 3001);
        Sentences.due("a share as great as the rent", x.setHousing(0, 300, 10), 300);
        Sentences.due("a share above the rent", x.setHousing(0, 299, 10), 299);
        Sentences.due("nothing is left of the rent", x.hostIncome(0), 3000);
        Sentences.due("no norm", x.setHousing(0, 299, 0), 0);
        Sentences.due("all of the rent is left", x.hostIncome(0), 3299);
        x.setHousing(0, 1000, 10);
        x.setAbroad(0, 0, 12);
        Sentences.due("in each month", x.hostIncome(0), 12 * 3700);
        x.setAbroad(0, 7, 7);
        Sentences.due("in no month", x.hostIncome(0), 0);
        x.setPay(0, 0);
        x.setAbroad(0, 0, 12);
        Sentences.due("no pay, no share", x.hostIncome(0), 12000);
        Sentences.due("no pay, nothing held", x.held(0, 0), 0);
        x.setPay(0, 9);
        Sentences.due("10 of tax in the year, 0 in a month", x.held(0, 0), 0);
        x.setPay(0, 10);
        Sentences.due("12 of tax in the year, 1 in a month", x.held(0, 0), 1);
    }

    private static void abroadPartOfEachBonus() {
        for (int from = 0; from <= 12; from++) {
            for (int to = from; to <= 12; to++) {
                for (int begin = 0; begin < 12; begin++) {
                    bonusesBegunIn(from, to, begin);
                }
            }
        }
    }

    private static void bonusesBegunIn(int from, int to, int begin) {
        TaxEqualiser x = Worlds.onePerson(0);
        x.setAbroad(0, from, to);
        int[] ends = {begin + 1, Math.min(begin + 3, 12), Math.min(begin + 7, 12), 12};
        for (int i = 0; i < ends.length; i++) {
            int abroad = 0;
            for (int month = begin; month < ends[i]; month++) {
                abroad += month >= from && month < to ? 1 : 0;
            }
            x.addBonus(0, 4999, begin, ends[i]);
            Sentences.due("abroad " + from + " to " + to + ", bonus " + begin + " to " + ends[i],
                x.abroadPart(0, i), 4999 * abroad / (ends[i] - begin));
        }
    }

    // ---- Taxes

    private static void taxes() {
        Sentences.section("Taxes");
        Sentences.sentence("The supposed tax of a person is the home tax of 12 times the pay and all bonuses "
            + "together.", TermsTests::supposedTaxOfAllTogether);
        Sentences.sentence("The home income is the pay of all months that are not abroad, and the bonuses less their "
            + "abroad parts.", TermsTests::homeIncomeFromNoneToAll);
        Sentences.sentence("The home tax is by progression: the home tax of the whole income, which is 12 times the "
            + "pay and all bonuses, times the home income, divided by the whole income; 0 if that is 0.",
            TermsTests::homeTaxFromNoneToAll);
        Sentences.sentence("The host income is the pay of all months abroad, the abroad parts of bonuses, and the "
            + "rents of all months abroad less own shares; what is held back as supposed tax does not lower it.",
            TermsTests::hostIncomeFromNoneToAll);
        Sentences.sentence("The firm pays the host tax, which is income as well: it is the least number for which the "
            + "tax of the host of the host income and this number together is this number.",
            TermsTests::hostTaxIsTheLeastNumber);
    }

    private static void supposedTaxOfAllTogether() {
        TaxEqualiser x = Worlds.onePerson(0);
        Sentences.due("no pay, no bonus", x.supposedTax(0), 0);
        x.setPay(0, 833);
        Sentences.due("9996 of pay, no bonus", x.supposedTax(0), 999);
        x.addBonus(0, 4, 0, 1);
        Sentences.due("a bonus up to the lower limit", x.supposedTax(0), 1000);
        x.addBonus(0, 5, 11, 12);
        Sentences.due("a bonus above it", x.supposedTax(0), 1001);
        for (int i = 2; i < 6; i++) {
            x.addBonus(0, 7500, 0, 12);
        }
        Sentences.due("six bonuses, 40005 in all", x.supposedTax(0), 7002);
    }

    private static void homeIncomeFromNoneToAll() {
        TaxEqualiser x = Worlds.onePerson(3000);
        x.addBonus(0, 1001, 2, 4);
        Sentences.due("no month abroad", x.homeIncome(0), 37001);
        x.setAbroad(0, 3, 4);
        Sentences.due("one month abroad", x.homeIncome(0), 33000 + 501);
        x.setAbroad(0, 1, 12);
        Sentences.due("one month at home", x.homeIncome(0), 3000);
        x.setAbroad(0, 0, 12);
        Sentences.due("no month at home", x.homeIncome(0), 0);
    }

    private static void homeTaxFromNoneToAll() {
        TaxEqualiser x = Worlds.onePerson(0);
        Sentences.due("the whole income is 0", x.homeTax(0), 0);
        x.setAbroad(0, 0, 12);
        Sentences.due("the whole income is 0, abroad", x.homeTax(0), 0);
        x.addBonus(0, 1, 0, 1);
        Sentences.due("the whole income is 1", x.homeTax(0), 0);
        x.setPay(0, 3000);
        Sentences.due("the home income is 0", x.homeTax(0), 0);
        x.setAbroad(0, 1, 12);
        x.addBonus(0, 36000, 1, 2);
        x.setHousing(0, 50000, 0);
        // 19800 * 3001 / 72001 is 825.27: the rent is in no income at home.
        Sentences.due("one month at home", x.homeTax(0), 825);
        x.setAbroad(0, 0, 0);
        Sentences.due("all at home", x.homeTax(0), 19800);
    }

    private static void hostIncomeFromNoneToAll() {
        TaxEqualiser x = Worlds.onePerson(3000);
        x.setHousing(0, 1000, 10);
        x.addBonus(0, 1001, 2, 4);
        Sentences.due("no month abroad", x.hostIncome(0), 0);
        x.setAbroad(0, 3, 4);
        Sentences.due("one month abroad", x.hostIncome(0), 3000 + 700 + 500);
        x.setAbroad(0, 0, 12);
        Sentences.due("all months abroad", x.hostIncome(0), 12 * 3700 + 1001);
        x.setHousing(0, 300, 10);
        Sentences.due("the own share is the rent", x.hostIncome(0), 36000 + 1001);
        x.setRates(0, 60, 60, 60);
        Sentences.due("held is 1800", x.held(0, 0), 1800);
        Sentences.due("what is held does not lower it", x.hostIncome(0), 36000 + 1001);
    }

    private static void hostTaxIsTheLeastNumber() {
        TaxEqualiser x = Worlds.onePerson(100);
        Sentences.due("no host income", x.hostTax(0), 0);
        x.setRates(1, 60, 60, 60);
        x.setAbroad(0, 5, 6);
        // 148 and 149 both are their own tax with 100.
        Sentences.due("the least of several", x.hostTax(0), 148);
        x.setRates(1, 0, 0, 0);
        Sentences.due("no rate", x.hostTax(0), 0);
        x.setRates(1, 10, 0, 0);
        x.setPay(0, 9);
        Sentences.due("rounded to none", x.hostTax(0), 0);
        x.setPay(0, 10);
        Sentences.due("one", x.hostTax(0), 1);
        x.setRates(1, 10, 20, 40);
        x.setPay(0, 9000);
        Sentences.due("up to the lower limit", x.hostTax(0), 999);
        x.setPay(0, 9500);
        Sentences.due("it brings the income above the lower limit", x.hostTax(0), 1124);
    }

    // ---- Settlement

    private static void settlement() {
        Sentences.section("Settlement");
        Sentences.sentence("What the person has borne is what was held back as supposed tax in all months abroad, and "
            + "the home tax.", TermsTests::borneFromNoneToAll);
        Sentences.sentence("The settlement is the supposed tax less that: above 0 the person owes it to the firm, "
            + "below 0 the firm owes it to the person.", TermsTests::settlementAboveAndBelowZero);
        Sentences.sentence("The cost of the firm is the host tax and the rents, less own shares, less what was held "
            + "back as supposed tax, less the settlement.", TermsTests::costAboveAndBelowZero);
        Sentences.namesNoBoundary("Ahead of the calls setLimits, setRates, tax, grossTax, grossTaxByTrying the "
            + "interface says: ---- lands.");
        Sentences.namesNoBoundary("Ahead of the calls add, setAbroad, setPay, setHousing, addBonus, people, abroadPart "
            + "the interface says: ---- people.");
        Sentences.namesNoBoundary("Ahead of the calls held, supposedTax, homeIncome, homeTax, hostIncome, hostTax, "
            + "borne, settlement, cost, dearest the interface says: ---- taxes and settlements.");
    }

    private static void borneFromNoneToAll() {
        TaxEqualiser x = Worlds.onePerson(3000);
        x.setHousing(0, 1000, 10);
        Sentences.due("no month abroad", x.borne(0), 6200);
        x.setAbroad(0, 0, 1);
        Sentences.due("one month abroad", x.borne(0), 516 + 5683);
        x.setAbroad(0, 1, 12);
        Sentences.due("one month at home", x.borne(0), 11 * 516 + 516);
        x.setAbroad(0, 0, 12);
        Sentences.due("all months abroad, each rounded", x.borne(0), 12 * 516);
        x.setPay(0, 0);
        Sentences.due("no pay", x.borne(0), 0);
    }

    private static void settlementAboveAndBelowZero() {
        TaxEqualiser x = Worlds.onePerson(3000);
        Sentences.due("0 at home", x.settlement(0), 0);
        x.setAbroad(0, 0, 12);
        Sentences.due("the person owes the rounded coins", x.settlement(0), 8);
        x.addBonus(0, 5000, 0, 12);
        Sentences.due("the person owes the tax of a bonus too", x.settlement(0), 1208);
        Sentences.due("the firm owes", Worlds.owedByFirm(3000).settlement(0), -8250);
    }

    private static void costAboveAndBelowZero() {
        TaxEqualiser x = Worlds.onePerson(3000);
        x.setHousing(0, 1000, 10);
        Sentences.due("0 at home", x.cost(0), 0);
        x.setAbroad(0, 0, 12);
        // The host tax of 44400 is 14599; 12 * 700 of rents; 12 * 516 held; a settlement of 8.
        Sentences.due("above 0", x.cost(0), 14599 + 8400 - 6192 - 8);
        x.setRates(1, 0, 0, 0);
        x.setHousing(0, 300, 10);
        Sentences.due("below 0", x.cost(0), -6200);
        TaxEqualiser y = Worlds.owedByFirm(3000);
        y.setRates(1, 0, 0, 0);
        Sentences.due("the firm owes a settlement", y.cost(0), -11 * 1500 + 8250);
    }

    // ---- Not promised

    private static void notPromised() {
        Sentences.section("Not promised");
        Sentences.namesNoBoundary("How the state is held inside the object is free, as are the speed of each call, "
            + "the text of toString and the behaviour of equals and hashCode.");
        Sentences.namesNoBoundary("Use of one object from several threads at once is not promised to be safe.");
        Sentences.namesNoBoundary("Nothing is promised beyond the answers and state changes described above, and "
            + "nothing about an object after its 512th call.");
    }
}
