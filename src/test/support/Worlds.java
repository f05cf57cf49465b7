/** Objects that the tests begin with, and all that an object answers. */
final class Worlds {
    private static final int MONTHS = 12;

    private Worlds() {
    }

    interface Maker {
        TaxEqualiser make();
    }

    static TaxEqualiser empty() {
        return new TaxEqualiser();
    }

    static TaxEqualiser onePerson(int pay) {
        TaxEqualiser x = new TaxEqualiser();
        x.add(0, 1, pay);
        return x;
    }

    /** Person 0 is abroad in the months 3 to 8 and has two bonuses, person 1 is abroad in month 0 and has none. */
    static TaxEqualiser twoPeople() {
        TaxEqualiser x = onePerson(3000);
        x.setAbroad(0, 3, 9);
        x.setHousing(0, 1000, 10);
        x.addBonus(0, 5000, 0, 6);
        x.addBonus(0, 7, 2, 5);
        x.add(2, 3, 100);
        x.setAbroad(1, 0, 1);
        return x;
    }

    /** Person 0 has five bonuses. */
    static TaxEqualiser ninePeople() {
        TaxEqualiser x = twoPeople();
        for (int i = 2; i < 9; i++) {
            x.add(i % 4, (i + 1) % 4, 1000 * i);
        }
        for (int i = 2; i < 5; i++) {
            x.addBonus(0, 10 * i, i, 12);
        }
        return x;
    }

    /** No room is left: ten people, and person 0 has six bonuses. */
    static TaxEqualiser full() {
        TaxEqualiser x = ninePeople();
        x.add(3, 1, 700);
        x.addBonus(0, 50, 5, 12);
        return x;
    }

    /** All that a person can have is greatest: whole income 4200000, rents 600000, rates 60. */
    static TaxEqualiser greatest(int from, int to) {
        TaxEqualiser x = onePerson(100000);
        x.setRates(0, 60, 60, 60);
        x.setRates(1, 60, 60, 60);
        x.setAbroad(0, from, to);
        x.setHousing(0, 50000, 0);
        for (int i = 0; i < 6; i++) {
            x.addBonus(0, 500000, 0, 12);
        }
        return x;
    }

    /** A home that taxes the first 36000 coins alone, and a great bonus earned at home. */
    static TaxEqualiser owedByFirm(int pay) {
        TaxEqualiser x = onePerson(pay);
        x.setLimits(0, 36000, 36000);
        x.setRates(0, 50, 0, 0);
        x.addBonus(0, 36000, 0, 1);
        x.setAbroad(0, 1, 12);
        return x;
    }

    /** Some 300 calls at most, so that an object of ten people stays below 512. */
    static String answersOf(TaxEqualiser x) {
        StringBuilder text = new StringBuilder();
        for (int land = 0; land < 4; land++) {
            text.append(x.tax(land, 10000)).append(' ').append(x.tax(land, 40000)).append(' ');
            text.append(x.tax(land, 1000100)).append('\n');
        }
        int people = x.people();
        text.append(people).append(' ').append(x.dearest()).append('\n');
        for (int person = 0; person < people; person++) {
            addPerson(text, x, person);
        }
        return text.toString();
    }

    private static void addPerson(StringBuilder text, TaxEqualiser x, int person) {
        for (int month = 0; month < MONTHS; month++) {
            text.append(x.held(person, month)).append(' ');
        }
        text.append(x.supposedTax(person)).append(' ').append(x.homeIncome(person)).append(' ');
        text.append(x.homeTax(person)).append(' ').append(x.hostIncome(person)).append(' ');
        text.append(x.hostTax(person)).append(' ').append(x.borne(person)).append(' ');
        text.append(x.settlement(person)).append(' ').append(x.cost(person)).append(" bonuses");
        try {
            for (int bonus = 0; bonus < 7; bonus++) {
                text.append(' ').append(x.abroadPart(person, bonus));
            }
        } catch (IndexOutOfBoundsException e) {
            text.append(" end");
        }
        text.append('\n');
    }
}
