import java.util.ArrayList;
import java.util.List;

/** Equalises the tax of staff sent abroad, for one year. Amounts are whole coins. */
public final class TaxEqualiser {
    private static final int MONTHS = 12;
    private static final int LANDS = 4;
    private static final int MOST_LIMIT = 1000000;
    private static final int MOST_RATE = 60;
    private static final int MOST_INCOME = 10000000;
    private static final int MOST_TRIED_INCOME = 20000;
    private static final int MOST_PEOPLE = 10;
    private static final int MOST_PAY = 100000;
    private static final int MOST_RENT = 50000;
    private static final int MOST_NORM = 40;
    private static final int MOST_BONUSES = 6;
    private static final int MOST_COINS = 500000;
    private static final int MOST_HALVINGS = 32;

    private final List<Land> lands = new ArrayList<>();
    private final List<Person> staff = new ArrayList<>();

    public TaxEqualiser() {
        for (int i = 0; i < LANDS; i++) {
            lands.add(new Land());
        }
    }

    // ---- lands

    public void setLimits(int land, int lower, int upper) throws IllegalArgumentException {
        Land chosen = landAt(land);
        requireRange(lower, 0, MOST_LIMIT);
        requireRange(upper, lower, MOST_LIMIT);
        chosen.limit(lower, upper);
    }

    public void setRates(int land, int first, int second, int third) throws IllegalArgumentException {
        Land chosen = landAt(land);
        requireRange(first, 0, MOST_RATE);
        requireRange(second, 0, MOST_RATE);
        requireRange(third, 0, MOST_RATE);
        chosen.rate(first, second, third);
    }

    public int tax(int land, int income) throws IllegalArgumentException {
        Land chosen = landAt(land);
        requireRange(income, 0, MOST_INCOME);
        return chosen.taxOf(income);
    }

    public int grossTax(int land, int income) throws IllegalArgumentException {
        Land chosen = landAt(land);
        requireRange(income, 0, MOST_INCOME);
        return chosen.grossTaxOf(income);
    }

    public int grossTaxByTrying(int land, int income) throws IllegalArgumentException {
        Land chosen = landAt(land);
        requireRange(income, 0, MOST_TRIED_INCOME);
        return chosen.grossTaxTried(income);
    }

    // ---- people

    public int add(int home, int host, int pay) throws IllegalArgumentException, IllegalStateException {
        Land homeLand = landAt(home);
        Land hostLand = landAt(host);
        if (home == host) {
            throw new IllegalArgumentException("home and host are the same land");
        }
        requireRange(pay, 0, MOST_PAY);
        if (staff.size() >= MOST_PEOPLE) {
            throw new IllegalStateException("no room for another person");
        }
        staff.add(new Person(homeLand, hostLand, pay));
        return staff.size() - 1;
    }

    public int setAbroad(int person, int from, int to)
            throws IndexOutOfBoundsException, IllegalArgumentException {
        Person chosen = personAt(person);
        requireRange(from, 0, MONTHS);
        requireRange(to, from, MONTHS);
        int before = chosen.monthsAbroad();
        chosen.abroadFrom = from;
        chosen.abroadTo = to;
        return before;
    }

    public int setPay(int person, int pay) throws IndexOutOfBoundsException, IllegalArgumentException {
        Person chosen = personAt(person);
        requireRange(pay, 0, MOST_PAY);
        int before = chosen.pay;
        chosen.pay = pay;
        return before;
    }

    public int setHousing(int person, int rent, int norm)
            throws IndexOutOfBoundsException, IllegalArgumentException {
        Person chosen = personAt(person);
        requireRange(rent, 0, MOST_RENT);
        requireRange(norm, 0, MOST_NORM);
        chosen.rent = rent;
        chosen.norm = norm;
        return chosen.ownShare();
    }

    public int addBonus(int person, int coins, int from, int to)
            throws IndexOutOfBoundsException, IllegalArgumentException, IllegalStateException {
        Person chosen = personAt(person);
        requireRange(coins, 1, MOST_COINS);
        requireRange(from, 0, MONTHS - 1);
        requireRange(to, from + 1, MONTHS);
        if (chosen.bonuses.size() >= MOST_BONUSES) {
            throw new IllegalStateException("no room for another bonus");
        }
        chosen.bonuses.add(new Bonus(coins, from, to));
        return chosen.bonuses.size() - 1;
    }

    public int people() {
        return staff.size();
    }

    public int abroadPart(int person, int bonus) throws IndexOutOfBoundsException {
        Person chosen = personAt(person);
        if (bonus < 0 || bonus >= chosen.bonuses.size()) {
            throw new IndexOutOfBoundsException("no such bonus");
        }
        return chosen.partAbroad(chosen.bonuses.get(bonus));
    }

    // ---- taxes and settlements

    public int held(int person, int month) throws IndexOutOfBoundsException, IllegalArgumentException {
        Person chosen = personAt(person);
        requireRange(month, 0, MONTHS - 1);
        return chosen.isAbroadIn(month) ? chosen.heldEachMonth() : 0;
    }

    public int supposedTax(int person) throws IndexOutOfBoundsException {
        return personAt(person).supposedTaxOfYear();
    }

    public int homeIncome(int person) throws IndexOutOfBoundsException {
        return personAt(person).incomeAtHome();
    }

    public int homeTax(int person) throws IndexOutOfBoundsException {
        return personAt(person).taxAtHome();
    }

    public int hostIncome(int person) throws IndexOutOfBoundsException {
        return personAt(person).incomeAtHost();
    }

    public int hostTax(int person) throws IndexOutOfBoundsException {
        return personAt(person).taxAtHost();
    }

    public int borne(int person) throws IndexOutOfBoundsException {
        return personAt(person).borneInYear();
    }

    public int settlement(int person) throws IndexOutOfBoundsException {
        return personAt(person).settlementOfYear();
    }

    public int cost(int person) throws IndexOutOfBoundsException {
        return personAt(person).costOfYear();
    }

    public int dearest() {
        int found = -1;
        int greatest = 0;
        for (int i = 0; i < staff.size(); i++) {
            int each = staff.get(i).costOfYear();
            if (found < 0 || each > greatest) {
                found = i;
                greatest = each;
            }
        }
        return found;
    }

    private Land landAt(int land) {
        if (land < 0 || land >= lands.size()) {
            throw new IllegalArgumentException("no such land");
        }
        return lands.get(land);
    }

    private Person personAt(int person) {
        if (person < 0 || person >= staff.size()) {
            throw new IndexOutOfBoundsException("no such person");
        }
        return staff.get(person);
    }

    private static void requireRange(int value, int least, int most) {
        if (value < least || value > most) {
            throw new IllegalArgumentException("an argument is out of range");
        }
    }

    /** A land with three bands of tax. */
    private static final class Land {
        private int lower = 10000;
        private int upper = 40000;
        private int first = 10;
        private int second = 20;
        private int third = 40;

        void limit(int newLower, int newUpper) {
            lower = newLower;
            upper = newUpper;
        }

        void rate(int newFirst, int newSecond, int newThird) {
            first = newFirst;
            second = newSecond;
            third = newThird;
        }

        int taxOf(int income) {
            long inFirst = Math.min(income, lower);
            long inSecond = Math.max(0, Math.min(income, upper) - lower);
            long inThird = Math.max(0, income - upper);
            return (int) ((inFirst * first + inSecond * second + inThird * third) / 100);
        }

        // No rate is above 60, so a coin more of income never brings more than a coin more of tax:
        // what the tax is above the number falls by 0 or 1 from each number to the next. It is
        // therefore 0 at the first number that the tax is not above, and that one can be halved for.
        int grossTaxOf(int income) {
            int low = 0;
            int high = mostGrossTax(income);
            for (int i = 0; i < MOST_HALVINGS && low < high; i++) {
                int middle = low + (high - low) / 2;
                if (taxOf(income + middle) <= middle) {
                    high = middle;
                } else {
                    low = middle + 1;
                }
            }
            return low;
        }

        int grossTaxTried(int income) {
            int most = mostGrossTax(income);
            for (int number = 0; number < most; number++) {
                if (taxOf(income + number) == number) {
                    return number;
                }
            }
            return most;
        }

        // At 60 percent the number would be 3/2 of the income; twice the income is surely enough.
        private static int mostGrossTax(int income) {
            return 2 * income;
        }
    }

    /** Coins earned in the months from one to another one, that one not included. */
    private static final class Bonus {
        private final int coins;
        private final int from;
        private final int to;

        Bonus(int coins, int from, int to) {
            this.coins = coins;
            this.from = from;
            this.to = to;
        }
    }

    /** A person sent from home to host, and what the year brings. */
    private static final class Person {
        private final Land home;
        private final Land host;
        private final List<Bonus> bonuses = new ArrayList<>();
        private int pay;
        private int abroadFrom = 0;
        private int abroadTo = 0;
        private int rent = 0;
        private int norm = 0;

        Person(Land home, Land host, int pay) {
            this.home = home;
            this.host = host;
            this.pay = pay;
        }

        int monthsAbroad() {
            return abroadTo - abroadFrom;
        }

        boolean isAbroadIn(int month) {
            return month >= abroadFrom && month < abroadTo;
        }

        int ownShare() {
            return Math.min(rent, pay * norm / 100);
        }

        int partAbroad(Bonus bonus) {
            int months = bonus.to - bonus.from;
            if (months <= 0) {
                return 0;
            }
            int abroad = Math.max(0, Math.min(bonus.to, abroadTo) - Math.max(bonus.from, abroadFrom));
            return bonus.coins * abroad / months;
        }

        int wholeIncome() {
            int income = MONTHS * pay;
            for (int i = 0; i < bonuses.size(); i++) {
                income += bonuses.get(i).coins;
            }
            return income;
        }

        int heldEachMonth() {
            return home.taxOf(MONTHS * pay) / MONTHS;
        }

        int heldInYear() {
            return monthsAbroad() * heldEachMonth();
        }

        int housingInYear() {
            return monthsAbroad() * (rent - ownShare());
        }

        int supposedTaxOfYear() {
            return home.taxOf(wholeIncome());
        }

        int incomeAtHome() {
            int income = (MONTHS - monthsAbroad()) * pay;
            for (int i = 0; i < bonuses.size(); i++) {
                Bonus bonus = bonuses.get(i);
                income += bonus.coins - partAbroad(bonus);
            }
            return income;
        }

        int taxAtHome() {
            int whole = wholeIncome();
            if (whole <= 0) {
                return 0;
            }
            return (int) ((long) home.taxOf(whole) * incomeAtHome() / whole);
        }

        int incomeAtHost() {
            int income = monthsAbroad() * pay + housingInYear();
            for (int i = 0; i < bonuses.size(); i++) {
                income += partAbroad(bonuses.get(i));
            }
            return income;
        }

        int taxAtHost() {
            return host.grossTaxOf(incomeAtHost());
        }

        int borneInYear() {
            return heldInYear() + taxAtHome();
        }

        int settlementOfYear() {
            return supposedTaxOfYear() - borneInYear();
        }

        int costOfYear() {
            return taxAtHost() + housingInYear() - heldInYear() - settlementOfYear();
        }
    }
}
