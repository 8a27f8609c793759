import java.util.List;

/** Each sentence of the document's Terms, with a test of its own. */
final class TermsSentences {
    private TermsSentences() { }

    @Says("What it is")
    static final class WhatItIs extends Checks {
        @Says("An object is used for at most 512 calls after it has been made;")
        static void the512thCallIsAnswered() {
            Residentroll x = new Residentroll();
            for (int i = 0; i < 24; i++) {
                x.birth(0, NONE, i % 16, 0);
            }
            x.roll(ALL, 0);
            int got = x.deliver(0);
            int calls = 26;
            for (int turn = 0; turn < 120; turn++) {
                x.move(turn % 24, TODAY, (turn + 1 + turn / 24) % 16);
                got += x.deliver(0);
                calls += 2;
            }
            due(24 + 120, got);
            for (; calls < 509; calls++) {
                due(12, x.look(0, 23));
            }
            due(23123, x.message(0, got - 1));
            due(12, x.holdsAnew(0, 23));
            due(509 - 266, x.looks(23));
        }

        @Says("what later calls answer is free.")
        static void anotherObjectAnswersOn() {
            Residentroll first = grown(2);
            for (int calls = 2; calls < 512; calls++) {
                first.look(0, 0);
            }
            Residentroll next = grown(2);
            due(0, next.looks(0));
            due(2, next.birth(TODAY, 0, 0, 0));
            due(0, next.look(0, 0));
            due(1, next.looks(0));
        }
    }

    @Says("Terms")
    static final class Terms extends Checks {
        @Says("What is now is kept as ACTS come, and is found once more from all ACTS.")
        static void whatIsKeptIsWhatIsFoundFromAllActs() {
            for (int many = 5; many <= 17; many++) {
                Residentroll x = afterTellings(many);
                for (int person = 0; person < 5; person++) {
                    for (int what = IS; what <= HOUSEHOLD; what++) {
                        due(x.asOf(person, what, x.day(), x.day()), x.now(person, what));
                    }
                }
            }
        }

        private static Residentroll afterTellings(int many) {
            Residentroll x = new Residentroll();
            List<Call> tellings = List.of(
                () -> x.birth(1000, NONE, 3, 1), () -> x.birth(1000, NONE, 3, 2), () -> x.birth(9000, 0, 3, 3),
                () -> x.birth(9000, 1, 4, 4), () -> x.birth(10001 - 18 * YEAR, 0, 3, 5),
                () -> x.tie(BOND, 0, 1, 8000), () -> x.pass(1), () -> x.move(2, 9999, 4),
                () -> x.naming(3, 9500, 9), () -> x.tie(ADOPTION, 3, 0, 9400), () -> x.tie(PARTING, 1, 0, 9000),
                () -> x.join(2, 3), () -> x.move(0, 8999, 15), () -> x.death(1, 9100),
                () -> x.strike(11), () -> x.strike(0), () -> x.pass(YEAR));
            for (int i = 0; i < many; i++) {
                tellings.get(i).make();
            }
            return x;
        }

        @Says("Days are counted from 0, at most 30000;")
        static void daysGoFrom0To30000() {
            Residentroll x = onTheLastDay();
            due(30000, x.day());
            due(3, x.birth(0, NONE, 0, 0));
            due(4, x.birth(30000, NONE, 0, 0));
            due(LIVING, x.asOf(3, IS, 0, 30000));
            due(UNBORN, x.asOf(4, IS, 29999, 30000));
            due(LIVING, x.asOf(4, IS, 30000, 30000));
            due(82, x.now(3, AGE));
            refused(ARGUMENT, () -> x.birth(-1, NONE, 0, 0));
            refused(ARGUMENT, () -> x.birth(30001, NONE, 0, 0));
            refused(STATE, () -> x.pass(1));
        }

        @Says("the day of now is 10000 at first.")
        static void theFirstDayOfNowIs10000() {
            Residentroll x = new Residentroll();
            due(10000, x.day());
            refused(ARGUMENT, () -> x.birth(10001, NONE, 0, 0));
            due(0, x.birth(10000, NONE, 0, 0));
            due(10000, x.actOf(0, 1));
        }

        @Says("A year has 365 days;")
        static void aYearHas365DaysAlways() {
            Residentroll x = new Residentroll();
            x.birth(1, NONE, 0, 0);
            for (int years = 1; years <= 27; years++) {
                due(years - 1, x.asOf(0, AGE, 1 + YEAR * years - 1, TODAY));
                due(years, x.asOf(0, AGE, 1 + YEAR * years, TODAY));
            }
        }

        @Says("all divisions are rounded down.")
        static void divisionsAreRoundedDown() {
            Residentroll x = new Residentroll();
            x.birth(TODAY - 2 * YEAR + 1, NONE, 3, 0);
            due(1, x.now(0, AGE));
            due(0, x.asOf(0, AGE, TODAY - 2 * YEAR + 1, TODAY));
            due(0, x.asOf(0, AGE, TODAY - YEAR, TODAY));
            due(1, x.money(0, TODAY, 1, TODAY));
            due(0, x.money(1, TODAY, 1, TODAY));
        }

        @Says("There are the DWELLINGS 0 to 15;")
        static void dwellingsGoFrom0To15() {
            Residentroll x = new Residentroll();
            for (int dwelling = 0; dwelling <= 15; dwelling++) {
                due(dwelling, x.birth(0, NONE, dwelling, 0));
                due(dwelling, x.now(dwelling, IS_IN));
                due(1, x.households(dwelling, 0, TODAY));
            }
            for (int none : new int[] {-1, 16, NONE, HIDDEN}) {
                refused(INDEX, () -> x.birth(0, NONE, none, 0));
                refused(INDEX, () -> x.move(0, 0, none));
                refused(INDEX, () -> x.households(none, 0, 0));
            }
        }

        @Says("those of the OFFICE o, 0 to 3, are 4 times o to 4 times o and 3, together.")
        static void anOfficeHasFourDwellings() {
            for (int dwelling = 0; dwelling <= 15; dwelling++) {
                Residentroll x = new Residentroll();
                x.birth(0, NONE, dwelling, 0);
                for (int office = 0; office <= 3; office++) {
                    boolean isOf = dwelling >= 4 * office && dwelling <= 4 * office + 3;
                    due(isOf ? 1 : 0, x.money(office, TODAY, 1, TODAY));
                    x.roll(TOWN, office);
                    due(isOf ? 1 : 0, x.owes(office));
                }
                refused(INDEX, () -> x.money(-1, TODAY, 1, TODAY));
                refused(INDEX, () -> x.money(4, TODAY, 1, TODAY));
                refused(INDEX, () -> x.roll(TOWN, -1));
                refused(INDEX, () -> x.roll(TOWN, 4));
            }
        }
    }

    @Says("ACTS")
    static final class Acts extends Checks {
        @Says("ACTS are numbered from 0 in the order in which they are told,")
        static void actsAreNumberedAsTheyAreTold() {
            Residentroll x = grown(3);
            due(3, x.move(0, 9000, 0));
            due(4, x.naming(0, 8000, 0));
            due(5, x.tie(BOND, 0, 1, 7000));
            due(6, x.tie(PARTING, 0, 1, 6000));
            due(7, x.tie(ADOPTION, 0, 1, 5000));
            due(8, x.join(1, 2));
            due(9, x.strike(8));
            due(10, x.death(0, 4000));
            due(3, x.birth(10, NONE, 0, 0));
            due(Residentroll.BIRTH, x.actOf(11, 0));
            due(10, x.actOf(11, 2));
            due(0, x.actOf(0, 3));
            refused(INDEX, () -> x.actOf(12, 0));
            refused(INDEX, () -> x.actOf(-1, 0));
        }

        @Says("at most 150.")
        static void thereAre150ActsAtMost() {
            Residentroll x = grown(3);
            for (int i = 3; i < 149; i++) {
                x.naming(0, 0, 1);
            }
            due(149, x.naming(1, TODAY, 999));
            due(999, x.now(1, NAME));
            due(1, x.actOf(149, 3));
            refused(INDEX, () -> x.actOf(150, 0));
            refused(STATE, () -> x.birth(0, NONE, 0, 0));
            refused(STATE, () -> x.move(0, 0, 0));
            refused(STATE, () -> x.naming(0, 0, 0));
            refused(STATE, () -> x.tie(BOND, 0, 1, 0));
            refused(STATE, () -> x.tie(PARTING, 0, 1, 0));
            refused(STATE, () -> x.tie(ADOPTION, 0, 1, 0));
            refused(STATE, () -> x.death(0, 0));
            refused(STATE, () -> x.join(0, 1));
            refused(STATE, () -> x.strike(149));
            refused(INDEX, () -> x.actOf(150, 0));
            due(NONE, x.actOf(149, 4));
        }

        @Says("An ACT has the day on which it is told, which is that of now,")
        static void anActIsToldOnTheDayOfNow() {
            Residentroll x = grown(2);
            x.pass(1);
            x.birth(10000, NONE, 0, 0);
            x.move(0, 5, 0);
            x.pass(5000);
            x.join(0, 1);
            x.strike(4);
            due(10000, x.actOf(1, 1));
            due(10001, x.actOf(2, 1));
            due(10001, x.actOf(3, 1));
            due(15001, x.actOf(4, 1));
            due(15001, x.actOf(5, 1));
        }

        @Says("and the day on which it was so, which is that or an earlier one.")
        static void anActWasSoOnTheDayOfNowOrEarlier() {
            Residentroll x = grown(1);
            for (int so : new int[] {10000, 9999, 1, 0}) {
                int act = x.move(0, so, 0);
                due(so, x.actOf(act, 2));
            }
            refused(ARGUMENT, () -> x.move(0, 10001, 0));
            refused(ARGUMENT, () -> x.move(0, -1, 0));
            x.pass(1);
            due(10001, x.actOf(x.move(0, 10001, 0), 2));
            refused(ARGUMENT, () -> x.move(0, 10002, 0));
        }

        @Says("PERSONS are numbered from 0 as their BIRTHS are told,")
        static void personsAreNumberedAsTheirBirthsAreTold() {
            Residentroll x = new Residentroll();
            due(0, x.birth(9000, NONE, 0, 5));
            x.move(0, 9001, 1);
            due(1, x.birth(100, NONE, 0, 6));
            x.strike(0);
            x.join(0, 1);
            due(2, x.birth(0, NONE, 0, 7));
            due(7, x.now(2, NAME));
            due(2, x.actOf(5, 3));
            refused(INDEX, () -> x.now(3, IS));
        }

        @Says("at most 24.")
        static void thereAre24PersonsAtMost() {
            Residentroll x = grown(23);
            due(23, x.birth(500, NONE, 15, 23));
            refused(STATE, () -> x.birth(500, NONE, 15, 24));
            refused(INDEX, () -> x.now(24, IS));
            x.tie(BOND, 23, 22, 5000);
            due(23, x.now(22, PARTNER));
            x.tie(ADOPTION, 23, 0, 5000);
            due(HIDDEN, x.origin(23, 22));
            due(NONE, x.origin(23, 23));
            x.bar(23, true);
            due(HIDDEN, x.look(1, 23));
            due(1, x.looks(23));
            x.roll(ALL, 0);
            due(24, x.deliver(0));
            due(15, x.holds(0, 23));
            due(15, x.holdsAnew(0, 23));
            due(NONE, x.doubleOf(23));
            due(5, x.likeness(23, 5));
            x.join(22, 23);
            due(DOUBLE, x.now(23, IS));
            refused(STATE, () -> x.birth(0, NONE, 0, 0));
        }

        @Says("The kinds of ACTS are:")
        static void thereAreNineKindsOfActs() {
            Residentroll x = grown(3);
            x.move(0, 500, 0);
            x.naming(0, 500, 0);
            x.tie(BOND, 0, 1, 500);
            x.tie(PARTING, 0, 1, 500);
            x.death(1, 500);
            x.tie(ADOPTION, 0, 2, 500);
            x.join(0, 1);
            x.strike(9);
            due(0, x.actOf(0, 0));
            for (int kind = 1; kind <= 8; kind++) {
                due(kind, x.actOf(2 + kind, 0));
            }
        }

        @Says("BIRTH: a PERSON, of a mother or none, in a DWELLING, with a name, 0 to 999;")
        static void aBirthHasAMotherOrNoneADwellingAndAName() {
            Residentroll x = new Residentroll();
            x.birth(0, NONE, 0, 0);
            x.birth(1, 0, 15, 999);
            due(NONE, x.now(0, MOTHER));
            due(0, x.now(1, MOTHER));
            due(0, x.now(0, IS_IN));
            due(15, x.now(1, IS_IN));
            due(0, x.now(0, NAME));
            due(999, x.now(1, NAME));
            refused(ARGUMENT, () -> x.birth(1, NONE, 0, 1000));
            refused(ARGUMENT, () -> x.birth(1, NONE, 0, -1));
        }

        @Says("MOVE: a PERSON to a DWELLING;")
        static void aMoveBringsToADwelling() {
            Residentroll x = grown(2);
            x.move(1, 5000, 15);
            due(15, x.now(1, IS_IN));
            x.move(1, 5001, 0);
            due(0, x.now(1, IS_IN));
            due(0, x.now(0, IS_IN));
            x.move(1, 5002, 0);
            due(0, x.now(1, IS_IN));
        }

        @Says("NAMING: a PERSON has a name from then on;")
        static void aNameIsHadFromTheDayOn() {
            Residentroll x = grown(2);
            x.naming(1, 5000, 999);
            due(1, x.asOf(1, NAME, 4999, TODAY));
            due(999, x.asOf(1, NAME, 5000, TODAY));
            due(999, x.asOf(1, NAME, TODAY, TODAY));
            due(0, x.now(0, NAME));
        }

        @Says("BOND and PARTING: of two PERSONS;")
        static void bondAndPartingAreOfTwoPersons() {
            Residentroll x = grown(3);
            x.tie(BOND, 2, 0, 5000);
            due(2, x.now(0, PARTNER));
            due(0, x.now(2, PARTNER));
            due(NONE, x.now(1, PARTNER));
            x.tie(PARTING, 0, 2, 5000);
            due(NONE, x.now(0, PARTNER));
            due(NONE, x.now(2, PARTNER));
            refused(ARGUMENT, () -> x.tie(BOND, 1, 1, 5000));
            refused(ARGUMENT, () -> x.tie(PARTING, 1, 1, 5000));
        }

        @Says("DEATH: of a PERSON;")
        static void aDeathIsOfOnePerson() {
            Residentroll x = grown(3);
            x.death(1, 5000);
            due(LIVING, x.now(0, IS));
            due(DEAD, x.now(1, IS));
            due(LIVING, x.now(2, IS));
        }

        @Says("ADOPTION: a PERSON has another one as mother from then on;")
        static void anAdoptionGivesAMotherFromTheDayOn() {
            Residentroll x = grown(3);
            x.tie(ADOPTION, 0, 2, 5000);
            due(NONE, x.asOf(0, MOTHER, 4999, TODAY));
            due(2, x.asOf(0, MOTHER, 5000, TODAY));
            due(2, x.now(0, MOTHER));
            due(NONE, x.now(2, MOTHER));
            refused(ARGUMENT, () -> x.tie(ADOPTION, 1, 1, 5000));
        }

        @Says("JOINING: a PERSON with a higher number is a double of one with a lower number;")
        static void theDoubleHasTheHigherNumber() {
            Residentroll x = new Residentroll();
            x.birth(9000, NONE, 1, 1);
            x.birth(100, NONE, 2, 2);
            refused(ARGUMENT, () -> x.join(1, 0));
            refused(ARGUMENT, () -> x.join(0, 0));
            refused(ARGUMENT, () -> x.join(1, 1));
            due(2, x.join(0, 1));
            due(LIVING, x.now(0, IS));
            due(DOUBLE, x.now(1, IS));
        }

        @Says("STRIKING: an earlier ACT, that is no STRIKING, does not count.")
        static void whatIsStruckIsEarlierAndNoStriking() {
            Residentroll x = grown(2);
            x.naming(0, 5000, 9);
            refused(INDEX, () -> x.strike(3));
            due(3, x.strike(2));
            due(0, x.now(0, NAME));
            refused(STATE, () -> x.strike(3));
            refused(INDEX, () -> x.strike(4));
            x.join(0, 1);
            due(5, x.strike(4));
            due(LIVING, x.now(1, IS));
            due(6, x.strike(0));
            due(UNBORN, x.now(0, IS));
        }

        @Says("JOININGS and STRIKINGS are so on all days.")
        static void joiningsAndStrikingsAreSoOnAllDays() {
            Residentroll x = grown(3);
            x.naming(0, 5000, 9);
            x.pass(5);
            x.join(1, 2);
            x.strike(3);
            due(NONE, x.actOf(4, 2));
            due(NONE, x.actOf(5, 2));
            for (int s : new int[] {0, 1, 100, 200, 4999, 5000, 10004, 10005}) {
                due(DOUBLE, x.asOf(2, IS, s, 10005));
                due(0, x.asOf(0, NAME, s, 10005));
            }
            due(LIVING, x.asOf(1, IS, 100, 10005));
        }

        @Says("What was so on a day S, as known on a day K")
        static void theTwoDaysAreApart() {
            Residentroll x = grown(1);
            x.pass(10);
            x.naming(0, 5000, 7);
            x.pass(10);
            x.naming(0, 4000, 8);
            x.naming(0, 10015, 9);
            int[][] rows = {
                {3999, 10000, 0}, {3999, 10020, 0}, {4000, 10019, 0}, {4000, 10020, 8}, {4999, 10020, 8},
                {5000, 10009, 0}, {5000, 10010, 7}, {5000, 10020, 7}, {10014, 10020, 7}, {10015, 10019, 7}, {10015, 10020, 9}, {10020, 10020, 9},
            };
            for (int[] row : rows) {
                due(row[2], x.asOf(0, NAME, row[0], row[1]));
            }
        }

        @Says("The ACTS told on the day K or earlier are looked at,")
        static void actsToldOnKAreLookedAt() {
            Residentroll x = new Residentroll();
            x.pass(10);
            x.birth(500, NONE, 3, 4);
            x.pass(10);
            x.move(0, 600, 5);
            due(UNBORN, x.asOf(0, IS, 10020, 0));
            due(UNBORN, x.asOf(0, IS, 10020, 10009));
            due(LIVING, x.asOf(0, IS, 500, 10010));
            due(3, x.asOf(0, IS_IN, 10020, 10019));
            due(5, x.asOf(0, IS_IN, 600, 10020));
        }

        @Says("without STRIKINGS, and without those that are struck by a STRIKING told on the day K or earlier.")
        static void actsStruckOnKAreNotLookedAt() {
            Residentroll x = grown(1);
            x.move(0, 600, 5);
            x.pass(10);
            x.strike(1);
            x.pass(10);
            due(5, x.asOf(0, IS_IN, 600, 10009));
            due(0, x.asOf(0, IS_IN, 600, 10010));
            due(0, x.asOf(0, IS_IN, 600, 10011));
            due(0, x.asOf(0, IS_IN, 10020, 10020));
            due(5, x.asOf(0, IS_IN, 10020, 10000));
            due(0, x.now(0, IS_IN));
        }

        @Says("First the JOININGS: a PERSON who is told as double by some of these is a DOUBLE:")
        static void whoIsToldAsDoubleIsOne() {
            Residentroll x = grown(3);
            x.pass(10);
            x.join(0, 2);
            x.join(1, 2);
            x.pass(10);
            x.strike(4);
            x.pass(10);
            x.strike(3);
            due(LIVING, x.asOf(2, IS, 500, 10009));
            due(DOUBLE, x.asOf(2, IS, 500, 10010));
            due(DOUBLE, x.asOf(2, IS, 500, 10020));
            due(DOUBLE, x.asOf(2, IS, 500, 10029));
            due(LIVING, x.asOf(2, IS, 500, 10030));
            due(LIVING, x.now(2, IS));
            // A double whose own BIRTH does not count is one, too.
            x.strike(2);
            x.join(1, 2);
            due(DOUBLE, x.now(2, IS));
        }

        @Says("whatever is told of it, as mother, partner or otherwise, is told of the PERSON of whom it is a double,")
        static void whatIsToldOfADoubleIsToldOfThePerson() {
            Residentroll x = grown(4);
            x.join(0, 3);
            x.move(3, 1000, 15);
            due(15, x.now(0, IS_IN));
            x.naming(3, 1000, 77);
            due(77, x.now(0, NAME));
            x.birth(1000, 3, 0, 0);
            due(0, x.now(4, MOTHER));
            x.tie(BOND, 1, 3, 1000);
            due(0, x.now(1, PARTNER));
            due(1, x.now(0, PARTNER));
            x.tie(PARTING, 3, 1, 1001);
            due(NONE, x.now(1, PARTNER));
            x.tie(BOND, 3, 1, 1002);
            due(0, x.now(1, PARTNER));
            x.tie(ADOPTION, 2, 3, 1000);
            due(0, x.now(2, MOTHER));
            x.tie(ADOPTION, 3, 1, 1000);
            due(1, x.now(0, MOTHER));
            x.death(3, 2000);
            due(DEAD, x.now(0, IS));
            due(DOUBLE, x.now(3, IS));
        }

        @Says("by the last of these ACTS (that with the greatest number),")
        static void theLastJoiningDecides() {
            Residentroll x = grown(4);
            x.naming(3, 5000, 77);
            x.join(1, 3);
            x.join(2, 3);
            x.join(0, 3);
            due(77, x.now(0, NAME));
            due(1, x.now(1, NAME));
            due(2, x.now(2, NAME));
            x.strike(7);
            due(0, x.now(0, NAME));
            due(77, x.now(2, NAME));
            x.strike(5);
            due(77, x.now(2, NAME));
            due(1, x.now(1, NAME));
            x.strike(6);
            due(2, x.now(2, NAME));
            due(77, x.now(3, NAME));
        }

        @Says("and if that is a DOUBLE, of that one's, and so on.")
        static void aRowOf23DoublesLeadsToTheFirst() {
            for (int turn = 0; turn < 2; turn++) {
                Residentroll x = grown(24);
                for (int i = 0; i < 23; i++) {
                    int lower = turn == 0 ? i : 22 - i;
                    x.join(lower, lower + 1);
                }
                x.naming(23, 9000, 777);
                due(777, x.now(0, NAME));
                for (int person = 1; person < 24; person++) {
                    due(DOUBLE, x.now(person, IS));
                }
                // Without the JOINING of 10 and 11 the row ends at 11.
                x.strike(turn == 0 ? 34 : 36);
                due(0, x.now(0, NAME));
                due(LIVING, x.now(11, IS));
                due(777, x.now(11, NAME));
            }
        }

        @Says("Then the other ones that were so on the day S or earlier are gone through,")
        static void actsThatWereSoOnSAreGoneThrough() {
            Residentroll x = grown(2);
            x.death(1, 9000);
            x.move(0, 9500, 12);
            due(UNBORN, x.asOf(1, IS, 99, TODAY));
            due(LIVING, x.asOf(1, IS, 100, TODAY));
            due(LIVING, x.asOf(1, IS, 8999, TODAY));
            due(DEAD, x.asOf(1, IS, 9000, TODAY));
            due(0, x.asOf(0, IS_IN, 9499, TODAY));
            due(12, x.asOf(0, IS_IN, 9500, TODAY));
            due(UNBORN, x.asOf(1, IS, 0, TODAY));
            due(LIVING, x.asOf(0, IS, 0, TODAY));
        }

        @Says("by the days on which they were so,")
        static void theDaysDecideBeforeTheNumbers() {
            Residentroll x = grown(1);
            x.naming(0, 5000, 3);
            x.naming(0, 4000, 2);
            x.naming(0, 6000, 4);
            x.naming(0, 3000, 1);
            x.naming(0, 5500, 5);
            int[][] rows = {{2999, 0}, {3000, 1}, {3999, 1}, {4000, 2}, {4999, 2}, {5000, 3}, {5499, 3}, {5500, 5}, {5999, 5}, {6000, 4}, {TODAY, 4}};
            for (int[] row : rows) {
                due(row[1], x.asOf(0, NAME, row[0], TODAY));
            }
            due(4, x.now(0, NAME));
        }

        @Says("of like days by their numbers,")
        static void theNumbersDecideOnOneDay() {
            Residentroll x = grown(2);
            x.naming(0, 6000, 7);
            x.naming(0, 5000, 1);
            x.naming(0, 5000, 2);
            x.naming(0, 5000, 3);
            due(3, x.asOf(0, NAME, 5000, TODAY));
            x.strike(5);
            due(2, x.asOf(0, NAME, 5000, TODAY));
            x.death(1, 100);
            due(DEAD, x.asOf(1, IS, 100, TODAY));
            x.naming(0, TODAY, 8);
            x.naming(0, TODAY, 9);
            due(9, x.now(0, NAME));
        }

        @Says("and each counts if it can:")
        static void whatCanNotCountLeavesAllAsItWas() {
            Residentroll x = grown(3);
            x.tie(BOND, 0, 1, 5000);
            x.tie(BOND, 0, 2, 5001);
            x.tie(PARTING, 0, 2, 5002);
            due(1, x.now(0, PARTNER));
            due(NONE, x.now(2, PARTNER));
            // It counts once what hindered it is struck.
            x.strike(5);
            x.strike(3);
            due(2, x.now(0, PARTNER));
            due(NONE, x.now(1, PARTNER));
        }

        @Says("BIRTH counts if the PERSON is UNBORN (so of a PERSON and its doubles the earlier BIRTH):")
        static void theEarlierBirthCounts() {
            Residentroll x = new Residentroll();
            x.birth(5000, NONE, 1, 1);
            x.birth(5000, NONE, 2, 2);
            x.birth(4999, NONE, 3, 3);
            x.join(0, 1);
            due(1, x.now(0, NAME));
            x.join(0, 2);
            due(3, x.now(0, NAME));
            due(3, x.now(0, IS_IN));
            due(LIVING, x.asOf(0, IS, 4999, TODAY));
            x.strike(2);
            due(UNBORN, x.asOf(0, IS, 4999, TODAY));
            due(1, x.now(0, NAME));
            x.strike(0);
            due(2, x.now(0, NAME));
            x.strike(1);
            due(UNBORN, x.now(0, IS));
        }

        @Says("BIRTH counts if the PERSON is UNBORN")
        static void aBirthAfterTheDeathDoesNotCount() {
            Residentroll x = grown(1);
            x.death(0, 4000);
            x.birth(4000, NONE, 7, 7);
            x.birth(9000, NONE, 8, 8);
            x.join(0, 2);
            x.join(0, 1);
            due(DEAD, x.now(0, IS));
            due(0, x.now(0, NAME));
            due(NONE, x.now(0, IS_IN));
            due(LIVING, x.asOf(0, IS, 3999, TODAY));
        }

        @Says("it is LIVING, in the DWELLING, with the name, without partner;")
        static void whoIsBornIsLivingAndHasNoPartner() {
            Residentroll x = grown(2);
            x.tie(BOND, 0, 1, 150);
            x.birth(150, NONE, 15, 999);
            due(LIVING, x.asOf(2, IS, 150, TODAY));
            due(15, x.asOf(2, IS_IN, 150, TODAY));
            due(999, x.asOf(2, NAME, 150, TODAY));
            due(NONE, x.asOf(2, PARTNER, 150, TODAY));
            due(UNBORN, x.asOf(2, IS, 149, TODAY));
        }

        @Says("its mother is the one told, if she is LIVING by then")
        static void theMotherIsLivingByThen() {
            Residentroll x = new Residentroll();
            x.birth(5000, NONE, 0, 0);
            x.birth(5000, 0, 0, 1);
            x.birth(4999, 0, 0, 2);
            due(0, x.now(1, MOTHER));
            due(NONE, x.now(2, MOTHER));
            x.birth(7000, 0, 0, 3);
            x.death(0, 7000);
            x.birth(7000, 0, 0, 4);
            x.birth(6999, 0, 0, 5);
            x.birth(7001, 0, 0, 6);
            due(0, x.now(3, MOTHER));
            due(NONE, x.now(4, MOTHER));
            due(0, x.now(5, MOTHER));
            due(NONE, x.now(6, MOTHER));
            due(0, x.origin(5, NONE));
            due(NONE, x.origin(4, NONE));
            // A mother whose BIRTH of the same day has a higher number is not LIVING by then.
            Residentroll late = new Residentroll();
            late.birth(5000, NONE, 0, 0);
            late.birth(5000, 0, 0, 1);
            late.birth(5000, NONE, 0, 2);
            late.strike(0);
            late.join(0, 2);
            due(LIVING, late.now(0, IS));
            due(NONE, late.now(1, MOTHER));
        }

        @Says("and not this PERSON, otherwise it has none;")
        static void nobodyIsBornOfItself() {
            Residentroll x = new Residentroll();
            x.birth(5000, NONE, 0, 0);
            x.birth(5000, 0, 1, 1);
            x.join(0, 1);
            due(NONE, x.now(0, MOTHER));
            x.strike(0);
            due(LIVING, x.now(0, IS));
            due(NONE, x.now(0, MOTHER));
            due(NONE, x.origin(0, NONE));
        }

        @Says("MOVE and NAMING count if the PERSON is LIVING;")
        static void moveAndNamingCountForTheLiving() {
            Residentroll x = grown(2);
            x.move(1, 99, 9);
            x.naming(1, 99, 9);
            due(1, x.now(1, IS_IN));
            due(1, x.now(1, NAME));
            x.move(1, 100, 9);
            x.naming(1, 100, 9);
            due(9, x.asOf(1, IS_IN, 100, TODAY));
            due(9, x.asOf(1, NAME, 100, TODAY));
            x.move(1, 5000, 10);
            x.naming(1, 5000, 10);
            x.death(1, 5000);
            x.move(1, 5000, 11);
            x.naming(1, 5000, 11);
            x.naming(1, 5001, 12);
            due(NONE, x.now(1, IS_IN));
            due(10, x.now(1, NAME));
            x.strike(1);
            due(NONE, x.now(1, IS_IN));
            due(NONE, x.now(1, NAME));
        }

        @Says("BOND counts if both are LIVING, unlike,")
        static void bondIsOfTwoUnlikeWhoAreLiving() {
            Residentroll x = grown(3);
            x.tie(BOND, 0, 2, 199);
            x.tie(BOND, 2, 1, 199);
            due(NONE, x.now(2, PARTNER));
            x.death(1, 500);
            x.tie(BOND, 1, 2, 500);
            x.tie(BOND, 2, 1, 501);
            due(NONE, x.now(2, PARTNER));
            due(NONE, x.now(1, PARTNER));
            x.tie(BOND, 0, 2, 600);
            x.join(0, 2);
            due(NONE, x.now(0, PARTNER));
            x.strike(9);
            due(2, x.now(0, PARTNER));
            x.tie(BOND, 1, 2, 200);
            due(1, x.asOf(2, PARTNER, 200, TODAY));
        }

        @Says("and neither has a partner: each is the partner of the other one;")
        static void bondIsOfTwoWithoutPartner() {
            Residentroll x = grown(4);
            x.tie(BOND, 2, 0, 5000);
            x.tie(BOND, 0, 1, 5000);
            x.tie(BOND, 3, 2, 5000);
            x.tie(BOND, 0, 2, 5000);
            due(2, x.now(0, PARTNER));
            due(0, x.now(2, PARTNER));
            due(NONE, x.now(1, PARTNER));
            due(NONE, x.now(3, PARTNER));
            x.tie(BOND, 3, 1, 5000);
            due(1, x.now(3, PARTNER));
            due(3, x.now(1, PARTNER));
        }

        @Says("PARTING counts if they are partners: neither has one then;")
        static void partingIsOfPartners() {
            Residentroll x = grown(4);
            x.tie(BOND, 0, 1, 5000);
            x.tie(BOND, 2, 3, 5000);
            x.tie(PARTING, 0, 1, 4999);
            x.tie(PARTING, 0, 2, 5000);
            x.tie(PARTING, 3, 1, 5000);
            due(1, x.now(0, PARTNER));
            due(0, x.now(1, PARTNER));
            due(3, x.now(2, PARTNER));
            due(2, x.now(3, PARTNER));
            x.tie(PARTING, 1, 0, 5000);
            due(NONE, x.asOf(0, PARTNER, 5000, TODAY));
            due(NONE, x.asOf(1, PARTNER, 5000, TODAY));
            due(3, x.now(2, PARTNER));
            // The PARTING of two who were never partners lets a BOND be that comes then.
            Residentroll y = grown(2);
            y.tie(PARTING, 0, 1, 5000);
            y.tie(BOND, 0, 1, 5000);
            due(1, y.now(0, PARTNER));
            // Nor does the PARTING of one and its own double count.
            y.birth(300, NONE, 0, 0);
            y.join(0, 2);
            y.tie(PARTING, 0, 2, 6000);
            due(1, y.now(0, PARTNER));
        }

        @Says("DEATH counts if the PERSON is LIVING: it is DEAD;")
        static void deathIsOfTheLiving() {
            Residentroll x = grown(2);
            x.death(1, 99);
            due(LIVING, x.now(1, IS));
            x.death(1, 100);
            due(DEAD, x.asOf(1, IS, 100, TODAY));
            due(UNBORN, x.asOf(1, IS, 99, TODAY));
            x.death(1, 5000);
            due(DEAD, x.now(1, IS));
            x.strike(1);
            due(UNBORN, x.now(1, IS));
        }

        @Says("its partner has none then, and it has none itself;")
        static void deathEndsABond() {
            Residentroll x = grown(4);
            x.tie(BOND, 0, 1, 5000);
            x.tie(BOND, 2, 3, 5000);
            x.death(1, 5001);
            due(1, x.asOf(0, PARTNER, 5000, TODAY));
            due(NONE, x.asOf(0, PARTNER, 5001, TODAY));
            due(NONE, x.asOf(1, PARTNER, 5001, TODAY));
            due(3, x.now(2, PARTNER));
            x.tie(PARTING, 2, 3, 5002);
            x.tie(BOND, 2, 0, 5003);
            due(2, x.now(0, PARTNER));
            // One without partner leaves the others theirs.
            x.death(3, 5004);
            due(2, x.now(0, PARTNER));
        }

        @Says("ADOPTION counts if both are LIVING and unlike: the other one is its mother,")
        static void adoptionIsOfTwoUnlikeWhoAreLiving() {
            Residentroll x = grown(4);
            x.tie(ADOPTION, 0, 1, 99);
            x.tie(ADOPTION, 1, 0, 99);
            due(NONE, x.now(0, MOTHER));
            due(NONE, x.now(1, MOTHER));
            x.tie(ADOPTION, 0, 1, 100);
            due(1, x.asOf(0, MOTHER, 100, TODAY));
            x.death(2, 5000);
            x.tie(ADOPTION, 0, 2, 5000);
            x.tie(ADOPTION, 2, 0, 5000);
            due(1, x.now(0, MOTHER));
            due(NONE, x.now(2, MOTHER));
            x.tie(ADOPTION, 0, 3, 6000);
            due(3, x.now(0, MOTHER));
            x.join(0, 3);
            due(1, x.now(0, MOTHER));
        }

        @Says("and it is adopted from then on for good.")
        static void whoIsAdoptedStaysSo() {
            Residentroll x = grown(3);
            x.birth(5000, 0, 0, 0);
            due(0, x.origin(3, NONE));
            x.tie(ADOPTION, 3, 1, 6000);
            due(HIDDEN, x.origin(3, NONE));
            x.tie(ADOPTION, 3, 0, 6000);
            due(HIDDEN, x.origin(3, NONE));
            x.death(0, 7000);
            due(HIDDEN, x.origin(3, NONE));
            x.death(3, 7000);
            due(HIDDEN, x.origin(3, NONE));
            x.pass(5000);
            due(HIDDEN, x.origin(3, NONE));
            // An ADOPTION that does not count, or is struck, leaves nobody adopted.
            x.tie(ADOPTION, 1, 0, 7000);
            due(NONE, x.origin(1, NONE));
            x.strike(4);
            due(HIDDEN, x.origin(3, NONE));
            x.strike(5);
            due(0, x.origin(3, NONE));
        }

        @Says("Who is not LIVING is in no DWELLING;")
        static void whoIsNotLivingIsInNoDwelling() {
            Residentroll x = grown(4);
            x.death(1, 5000);
            x.join(2, 3);
            x.strike(2);
            due(0, x.now(0, IS_IN));
            due(NONE, x.now(1, IS_IN));
            due(3, x.now(2, IS_IN));
            due(NONE, x.now(3, IS_IN));
            due(NONE, x.asOf(0, IS_IN, TODAY, 0));
            due(0, x.households(1, TODAY, TODAY));
            due(0, x.households(2, TODAY, TODAY));
            x.strike(3);
            due(NONE, x.now(2, IS_IN));
            due(1, x.money(0, TODAY, 1, TODAY));
        }

        @Says("who is DEAD keeps the name and the mother;")
        static void whoIsDeadKeepsTheNameAndTheMother() {
            Residentroll x = grown(3);
            x.tie(ADOPTION, 1, 2, 4000);
            x.naming(1, 4000, 44);
            x.death(1, 5000);
            due(44, x.now(1, NAME));
            due(2, x.now(1, MOTHER));
            // also when the mother dies afterwards
            x.death(2, 6000);
            due(2, x.now(1, MOTHER));
            x.tie(ADOPTION, 1, 0, 7000);
            due(2, x.now(1, MOTHER));
        }

        @Says("who is UNBORN or a DOUBLE has neither.")
        static void whoIsUnbornOrADoubleHasNoNameAndNoMother() {
            Residentroll x = grown(1);
            x.birth(5000, 0, 3, 33);
            x.birth(5000, 0, 4, 44);
            x.join(1, 2);
            due(NONE, x.now(2, NAME));
            due(NONE, x.now(2, MOTHER));
            due(NONE, x.asOf(1, NAME, 4999, TODAY));
            due(NONE, x.asOf(1, MOTHER, 4999, TODAY));
            due(33, x.asOf(1, NAME, 5000, TODAY));
            due(0, x.asOf(1, MOTHER, 5000, TODAY));
            x.strike(0);
            due(NONE, x.now(0, NAME));
            due(NONE, x.now(0, MOTHER));
        }

        @Says("The age of who is LIVING on S is S less the day of the BIRTH that counts, divided by 365.")
        static void theAgeGoesByTheBirthThatCounts() {
            Residentroll x = new Residentroll();
            x.birth(5000, NONE, 0, 0);
            x.birth(4000, NONE, 0, 0);
            due(0, x.asOf(0, AGE, 5000, TODAY));
            due(0, x.asOf(0, AGE, 5364, TODAY));
            due(1, x.asOf(0, AGE, 5365, TODAY));
            due(13, x.now(0, AGE));
            x.join(0, 1);
            due(16, x.now(0, AGE));
            due(0, x.asOf(0, AGE, 4364, TODAY));
            due(1, x.asOf(0, AGE, 4365, TODAY));
            x.strike(1);
            due(13, x.now(0, AGE));
            // S, not K: what is known does not make older
            due(0, x.asOf(0, AGE, 5364, TODAY));
            x.pass(5000);
            due(0, x.asOf(0, AGE, 5364, 15000));
            due(27, x.now(0, AGE));
        }

        @Says("Two PERSONS who are LIVING in the same DWELLING are of one household if they are partners,")
        static void partnersInOneDwellingAreOneHousehold() {
            Residentroll x = new Residentroll();
            x.birth(0, NONE, 0, 0);
            x.birth(0, NONE, 0, 1);
            x.birth(0, NONE, 0, 2);
            due(3, x.households(0, TODAY, TODAY));
            x.tie(BOND, 1, 2, 5000);
            due(2, x.households(0, TODAY, TODAY));
            due(1, x.now(2, HOUSEHOLD));
            due(1, x.now(1, HOUSEHOLD));
            due(0, x.now(0, HOUSEHOLD));
            due(3, x.households(0, 4999, TODAY));
            x.move(2, 6000, 1);
            due(2, x.now(2, HOUSEHOLD));
            due(1, x.households(1, TODAY, TODAY));
            due(2, x.households(0, TODAY, TODAY));
            x.move(2, 7000, 0);
            due(1, x.now(2, HOUSEHOLD));
            x.tie(PARTING, 1, 2, 8000);
            due(2, x.now(2, HOUSEHOLD));
            x.tie(BOND, 1, 2, 8000);
            x.death(1, 8001);
            due(2, x.now(2, HOUSEHOLD));
            due(NONE, x.now(1, HOUSEHOLD));
        }

        @Says("or if one of them is the mother of the other one, whose age is below 18")
        static void aChildBelow18IsOfItsMothersHousehold() {
            Residentroll x = new Residentroll();
            x.birth(0, NONE, 0, 0);
            x.birth(3000, 0, 0, 1);
            int grownUp = 3000 + 18 * YEAR;
            due(0, x.asOf(1, HOUSEHOLD, 3000, TODAY));
            due(0, x.asOf(1, HOUSEHOLD, grownUp - 1, TODAY));
            due(1, x.asOf(1, HOUSEHOLD, grownUp, TODAY));
            due(1, x.households(0, grownUp - 1, TODAY));
            due(2, x.households(0, grownUp, TODAY));
            x.move(1, 5000, 3);
            due(1, x.asOf(1, HOUSEHOLD, 5000, TODAY));
            due(0, x.asOf(1, HOUSEHOLD, 4999, TODAY));
            // A mother who is below 18 herself, and younger than her child, is one all the same.
            Residentroll y = new Residentroll();
            y.birth(9000, NONE, 0, 0);
            y.birth(9500, NONE, 0, 1);
            y.tie(ADOPTION, 0, 1, 9600);
            due(1, y.households(0, TODAY, TODAY));
            due(0, y.now(1, HOUSEHOLD));
            due(2, y.households(0, 9599, TODAY));
        }

        @Says("and who has no partner;")
        static void aChildWithPartnerIsNotOfItsMothersHousehold() {
            Residentroll x = new Residentroll();
            x.birth(0, NONE, 0, 0);
            x.birth(9000, 0, 0, 1);
            x.birth(0, NONE, 9, 2);
            due(0, x.now(1, HOUSEHOLD));
            x.tie(BOND, 1, 2, 9500);
            due(1, x.now(1, HOUSEHOLD));
            due(0, x.asOf(1, HOUSEHOLD, 9499, TODAY));
            x.tie(PARTING, 1, 2, 9600);
            due(0, x.now(1, HOUSEHOLD));
            // The mother may have one.
            x.tie(BOND, 0, 2, 9700);
            due(0, x.now(1, HOUSEHOLD));
            x.tie(BOND, 1, 2, 9650);
            due(1, x.now(1, HOUSEHOLD));
        }

        @Says("and so are those whom a row of such PERSONS in that DWELLING joins.")
        static void aRowOf24IsOneHousehold() {
            Residentroll x = new Residentroll();
            x.birth(9000, NONE, 0, 0);
            for (int i = 1; i < 24; i++) {
                x.birth(9000, i - 1, 0, 0);
            }
            due(1, x.households(0, TODAY, TODAY));
            for (int person = 0; person < 24; person++) {
                due(0, x.now(person, HOUSEHOLD));
            }
            // Who is elsewhere joins nobody in that DWELLING.
            x.move(12, 9500, 1);
            due(2, x.households(0, TODAY, TODAY));
            due(1, x.households(1, TODAY, TODAY));
            due(0, x.now(11, HOUSEHOLD));
            due(12, x.now(12, HOUSEHOLD));
            due(13, x.now(13, HOUSEHOLD));
            due(13, x.now(23, HOUSEHOLD));
            // A row that is told from its highest PERSON on has the same lowest one.
            Residentroll y = new Residentroll();
            for (int i = 0; i < 24; i++) {
                y.birth(9000, NONE, 0, 0);
            }
            for (int i = 22; i >= 0; i--) {
                y.tie(ADOPTION, i, i + 1, 9001);
            }
            due(1, y.households(0, TODAY, TODAY));
            due(0, y.now(23, HOUSEHOLD));
            due(24, y.households(0, 9000, TODAY));
        }

        @Says("a row of such PERSONS in that DWELLING joins.")
        static void rowsThatMeetAreOneHousehold() {
            Residentroll x = new Residentroll();
            for (int i = 0; i < 8; i++) {
                x.birth(9000, NONE, 0, 0);
            }
            // 1 and 2 with 5, 6 and 7 with 3, and 4 alone
            x.tie(ADOPTION, 1, 5, 9100);
            x.tie(ADOPTION, 2, 5, 9100);
            x.tie(BOND, 3, 7, 9100);
            x.tie(ADOPTION, 6, 7, 9100);
            int[] before = {0, 1, 1, 3, 4, 1, 3, 3};
            for (int person = 0; person < 8; person++) {
                due(before[person], x.now(person, HOUSEHOLD));
            }
            due(4, x.households(0, TODAY, TODAY));
            // the mother of one row is the child of 0, then of one of the other row
            x.tie(ADOPTION, 5, 0, 9200);
            int[] then = {0, 0, 0, 3, 4, 0, 3, 3};
            for (int person = 0; person < 8; person++) {
                due(then[person], x.now(person, HOUSEHOLD));
            }
            due(3, x.households(0, TODAY, TODAY));
            x.tie(ADOPTION, 5, 7, 9300);
            int[] last = {0, 1, 1, 1, 4, 1, 1, 1};
            for (int person = 0; person < 8; person++) {
                due(last[person], x.now(person, HOUSEHOLD));
            }
            due(3, x.households(0, TODAY, TODAY));
        }
    }

    @Says("Numbers")
    static final class Numbers extends Checks {
        @Says("A serial s, from 1001 on, has the check c:")
        static void serialsBeginWith1001() {
            Residentroll x = grown(1);
            due(10017, x.number(0));
            due(0, x.bearer(10017));
            // 1000 would have the check 2
            refused(ARGUMENT, () -> x.bearer(10002));
        }

        @Says("with the digits d1 to d4 of s from the left, (2 d1 + 3 d2 + 4 d3 + 5 d4) modulo 11;")
        static void theCheckIsOfTheFourDigits() {
            Residentroll x = new Residentroll();
            // 2 + 10; 2 + 4; 2 + 3; 4; 2 + 6 + 12 + 20; 8 + 9 + 8 + 5; 18 + 27 + 36 + 45; 18 + 15
            int[] valid = {10021, 10106, 11005, 20004, 12347, 43218, 99995, 95000};
            for (int number : valid) {
                due(NONE, x.bearer(number));
                for (int check = 0; check < 10; check++) {
                    int other = number / 10 * 10 + check;
                    if (other != number) {
                        refused(ARGUMENT, () -> x.bearer(other));
                    }
                }
            }
        }

        @Says("the number of s is 10 s + c, or there is none if c is 10.")
        static void aSerialWithCheck10HasNoNumber() {
            Residentroll x = grown(6);
            due(10055, x.number(4));
            // 1006 has the check 32 modulo 11
            due(10074, x.number(5));
            for (int check = 0; check < 10; check++) {
                int number = 10060 + check;
                refused(ARGUMENT, () -> x.bearer(number));
            }
            refused(ARGUMENT, () -> x.bearer(10070));
        }

        @Says("As a BIRTH is told its PERSON gets the next number, by rising serials, that was not given yet;")
        static void aBirthGetsTheNextNumber() {
            Residentroll x = new Residentroll();
            x.birth(9000, NONE, 0, 0);
            x.birth(100, NONE, 0, 0);
            due(10017, x.number(0));
            due(10021, x.number(1));
            due(10036, x.renumber(0));
            x.strike(0);
            x.strike(1);
            x.birth(0, NONE, 0, 0);
            due(10040, x.number(2));
            due(10036, x.number(0));
            due(10021, x.number(1));
            due(2, x.bearer(10040));
            due(NONE, x.bearer(10055));
        }

        @Says("a PERSON can get another one for cause: the old one is never given again, and still leads to the PERSON, also if that is a DOUBLE.")
        static void anOldNumberLeadsToItsPersonStill() {
            Residentroll x = grown(2);
            due(10036, x.renumber(1));
            due(10040, x.renumber(1));
            x.join(0, 1);
            due(10055, x.renumber(1));
            x.strike(1);
            x.birth(0, NONE, 0, 0);
            due(10074, x.number(2));
            due(10055, x.number(1));
            for (int number : new int[] {10021, 10036, 10040, 10055}) {
                due(1, x.bearer(number));
            }
            due(0, x.bearer(10017));
            x.death(0, 5000);
            due(0, x.bearer(10017));
        }

        @Says("At most 60 numbers are given.")
        static void the60thNumberIsTheLast() {
            Residentroll x = grown(1);
            for (int given = 1; given < 59; given++) {
                x.renumber(0);
            }
            due(1, x.birth(0, NONE, 0, 0));
            // 1001 to 1066 but for the six that have none: 1006, 1013, 1020, 1038, 1045 and 1052
            due(10661, x.number(1));
            due(1, x.bearer(10661));
            refused(STATE, () -> x.birth(0, NONE, 0, 0));
            refused(STATE, () -> x.renumber(0));
            refused(STATE, () -> x.renumber(1));
            refused(INDEX, () -> x.number(2));
            due(10661, x.number(1));
        }
    }

    @Says("Rolls")
    static final class Rolls extends Checks {
        @Says("ROLLS are numbered from 0,")
        static void rollsAreNumberedFrom0() {
            Residentroll x = grown(1);
            refused(INDEX, () -> x.owes(0));
            for (int roll = 0; roll < 5; roll++) {
                due(roll, x.roll(3 - roll % 4, 0));
                due(NONE, x.holds(roll, 0));
                int next = roll + 1;
                refused(INDEX, () -> x.owes(next));
            }
            refused(INDEX, () -> x.owes(-1));
        }

        @Says("at most 5.")
        static void thereAreFiveRollsAtMost() {
            Residentroll x = fullOfRolls();
            refused(STATE, () -> x.roll(ALL, 0));
            refused(STATE, () -> x.roll(TOWN, 3));
            due(3, x.deliver(4));
            refused(INDEX, () -> x.deliver(5));
        }

        @Says("A ROLL is of a kind: ALL, those LIVING;")
        static void allAreThoseLiving() {
            Residentroll x = grown(5);
            x.death(1, 5000);
            x.join(0, 2);
            x.strike(3);
            x.birth(TODAY, NONE, 15, 0);
            x.roll(ALL, 3);
            due(3, x.deliver(0));
            due(1, x.message(0, 0));
            due(4041, x.message(0, 1));
            due(5151, x.message(0, 2));
        }

        @Says("VOTES, of an age of 18 or more;")
        static void votesBeginAt18() {
            Residentroll x = new Residentroll();
            x.birth(TODAY - 18 * YEAR + 1, NONE, 1, 0);
            x.birth(TODAY - 18 * YEAR, NONE, 2, 0);
            x.birth(TODAY - 19 * YEAR, NONE, 3, 0);
            x.birth(0, NONE, 4, 0);
            x.birth(0, NONE, 5, 0);
            x.death(4, 9000);
            x.tie(BOND, 1, 2, 9000);
            x.tie(ADOPTION, 3, 2, 9000);
            x.roll(VOTES, 0);
            due(3, x.deliver(0));
            due(1021, x.message(0, 0));
            due(2031, x.message(0, 1));
            due(3041, x.message(0, 2));
        }

        @Says("SCHOOL, of an age of 6 to 15;")
        static void schoolIsFrom6To15() {
            Residentroll x = new Residentroll();
            x.birth(TODAY - 6 * YEAR + 1, NONE, 1, 0);
            x.birth(TODAY - 6 * YEAR, NONE, 2, 0);
            x.birth(TODAY - 16 * YEAR + 1, NONE, 3, 0);
            x.birth(TODAY - 16 * YEAR, NONE, 4, 0);
            x.birth(TODAY - 10 * YEAR, NONE, 5, 0);
            x.death(4, 9000);
            x.roll(SCHOOL, 0);
            due(2, x.deliver(0));
            due(1021, x.message(0, 0));
            due(2031, x.message(0, 1));
        }

        @Says("TOWN, those in DWELLINGS of an OFFICE;")
        static void townIsTheDwellingsOfTheOffice() {
            Residentroll x = grown(16);
            x.death(5, 9000);
            x.roll(TOWN, 1);
            due(3, x.deliver(0));
            due(4041, x.message(0, 0));
            due(6061, x.message(0, 1));
            due(7071, x.message(0, 2));
            due(NONE, x.holds(0, 3));
            due(NONE, x.holds(0, 8));
        }

        @Says("each on the day of now, as known now.")
        static void aRollGoesByNow() {
            Residentroll x = new Residentroll();
            x.birth(TODAY - 18 * YEAR + 1, NONE, 1, 0);
            x.birth(TODAY - 6 * YEAR + 1, NONE, 2, 0);
            x.birth(TODAY - 16 * YEAR + 1, NONE, 3, 0);
            x.roll(VOTES, 0);
            x.roll(SCHOOL, 0);
            due(0, x.owes(0));
            due(1, x.deliver(1));
            x.pass(1);
            due(1, x.owes(0));
            due(2, x.deliver(1));
            due(1021, x.message(1, 1));
            due(2002, x.message(1, 2));
            x.strike(0);
            due(0, x.owes(0));
        }

        @Says("It has nobody at first.")
        static void aRollHasNobodyAtFirst() {
            Residentroll x = grown(24);
            x.roll(ALL, 0);
            for (int person = 0; person < 24; person++) {
                due(NONE, x.holds(0, person));
                due(NONE, x.holdsAnew(0, person));
            }
            due(24, x.owes(0));
            refused(INDEX, () -> x.message(0, 0));
        }

        @Says("To deliver it is to send messages, by rising PERSONS:")
        static void messagesGoByRisingPersons() {
            Residentroll x = grown(6);
            x.death(0, 9000);
            x.roll(ALL, 0);
            x.deliver(0);
            x.move(5, 9000, 9);
            x.death(4, 9000);
            x.move(3, 9000, 8);
            x.strike(6);
            int[] due = {1, 3083, 4002, 5093};
            due(4, x.deliver(0));
            for (int i = 0; i < 4; i++) {
                due(due[i], x.message(0, 5 + i));
            }
            refused(INDEX, () -> x.message(0, 9));
        }

        @Says("that one COMES, who is of its kind and whom the ROLL does not have;")
        static void whoIsNotHadComes() {
            Residentroll x = grown(1);
            x.roll(TOWN, 0);
            due(1, x.deliver(0));
            due(1, x.message(0, 0));
            due(0, x.deliver(0));
            x.birth(9000, NONE, 3, 0);
            x.birth(9000, NONE, 4, 0);
            due(1, x.deliver(0));
            due(1031, x.message(0, 1));
            // who went comes again, also to the DWELLING that was told last
            x.move(0, 9000, 4);
            due(1, x.deliver(0));
            x.move(0, 9001, 0);
            due(1, x.deliver(0));
            due(1, x.message(0, 3));
        }

        @Says("that one GOES, whom it has, and who is not of its kind;")
        static void whoIsHadAndNotOfTheKindGoes() {
            Residentroll x = grown(4);
            x.roll(TOWN, 0);
            due(4, x.deliver(0));
            x.move(0, 9000, 4);
            x.death(1, 9000);
            x.join(2, 3);
            due(3, x.deliver(0));
            int[] due = {2, 1002, 3002};
            for (int i = 0; i < 3; i++) {
                due(due[i], x.message(0, 4 + i));
            }
            due(NONE, x.holds(0, 0));
            due(0, x.deliver(0));
            x.strike(2);
            x.strike(3);
            due(1, x.deliver(0));
            due(2002, x.message(0, 7));
        }

        @Says("that one MOVED, whom it has, who is of its kind, and is in another DWELLING than the one told last.")
        static void whoIsElsewhereThanToldLastMoved() {
            Residentroll x = grown(2);
            x.roll(TOWN, 0);
            due(2, x.deliver(0));
            x.move(0, 9000, 3);
            due(1, x.deliver(0));
            due(33, x.message(0, 2));
            x.move(0, 9001, 2);
            x.move(0, 9002, 3);
            due(0, x.deliver(0));
            x.move(0, 9003, 0);
            due(1, x.deliver(0));
            due(3, x.message(0, 3));
            // who left and came back between is of the kind and where it was
            x.move(0, 9004, 8);
            x.move(0, 9005, 0);
            due(0, x.owes(0));
        }

        @Says("Each message but GOES tells the DWELLING.")
        static void allMessagesButGoesTellTheDwelling() {
            Residentroll x = new Residentroll();
            x.birth(0, NONE, 15, 0);
            x.roll(ALL, 0);
            x.deliver(0);
            due(151, x.message(0, 0));
            x.move(0, 9000, 14);
            x.deliver(0);
            due(143, x.message(0, 1));
            x.death(0, 9000);
            x.deliver(0);
            due(2, x.message(0, 2));
            due(NONE, x.holds(0, 0));
        }

        @Says("An IndexOutOfBoundsException is thrown if there is no such PERSON, DWELLING, OFFICE, ACT or ROLL, or no such place,")
        static void whatThereIsNotIsNoSuchThing() {
            int[] beyond = {Integer.MIN_VALUE, -2, -1, 24, 150, Integer.MAX_VALUE};
            for (int none : beyond) {
                Residentroll x = grown(2);
                x.roll(ALL, 0);
                x.deliver(0);
                if (none != NONE) {
                    refused(INDEX, () -> x.birth(0, none, 0, 0));
                    refused(INDEX, () -> x.origin(0, none));
                }
                List<Call> calls = List.of(
                    () -> x.birth(0, NONE, none, 0), () -> x.move(none, 0, 0), () -> x.move(0, 0, none), () -> x.naming(none, 0, 0),
                    () -> x.tie(BOND, none, 0, 0), () -> x.tie(BOND, 0, none, 0), () -> x.death(none, 0), () -> x.join(none, 1), () -> x.join(0, none),
                    () -> x.strike(none), () -> x.actOf(none, 0), () -> x.asOf(none, 0, 0, 0), () -> x.now(none, 0), () -> x.households(none, 0, 0),
                    () -> x.money(none, 0, 1, 0), () -> x.origin(none, NONE), () -> x.likeness(none, 0), () -> x.likeness(0, none), () -> x.doubleOf(none),
                    () -> x.renumber(none), () -> x.number(none), () -> x.roll(ALL, none), () -> x.deliver(none), () -> x.owes(none), () -> x.message(none, 0),
                    () -> x.message(0, none), () -> x.holds(none, 0), () -> x.holds(0, none), () -> x.holdsAnew(none, 0), () -> x.holdsAnew(0, none),
                    () -> x.bar(none, true) ? 1 : 0, () -> x.look(0, none), () -> x.looks(none));
                for (Call call : calls) {
                    refused(INDEX, call);
                }
            }
        }

        @Says("an IllegalArgumentException if another argument is out of range,")
        static void otherArgumentsHaveTheirRange() {
            for (int off : new int[] {Integer.MIN_VALUE, -2, -1, 10001, 100000, Integer.MAX_VALUE}) {
                Residentroll x = grown(2);
                List<Call> calls = List.of(
                    () -> x.pass(off), () -> x.birth(off, NONE, 0, 0), () -> x.birth(0, NONE, 0, off), () -> x.move(0, off, 0), () -> x.naming(0, off, 0),
                    () -> x.naming(0, 0, off), () -> x.tie(off, 0, 1, 0), () -> x.tie(BOND, 0, 1, off), () -> x.death(0, off), () -> x.actOf(0, off),
                    () -> x.asOf(0, off, 0, 0), () -> x.asOf(0, 0, off, 0), () -> x.asOf(0, 0, 0, off), () -> x.now(0, off), () -> x.households(0, off, 0),
                    () -> x.households(0, 0, off), () -> x.money(0, off, 1, 0), () -> x.money(0, 0, off, 0), () -> x.money(0, 0, 1, off),
                    () -> x.changed(off, 0, 0), () -> x.changed(0, off, 0), () -> x.changed(0, 0, off), () -> x.bearer(off), () -> x.roll(off, 0), () -> x.look(off, 0));
                for (Call call : calls) {
                    refused(ARGUMENT, call);
                }
            }
        }

        @Says("or two PERSONS are the same where another one is wanted,")
        static void anotherOneIsNotTheSame() {
            Residentroll x = grown(2);
            for (int person = 0; person < 2; person++) {
                int same = person;
                refused(ARGUMENT, () -> x.tie(BOND, same, same, 0));
                refused(ARGUMENT, () -> x.tie(PARTING, same, same, 0));
                refused(ARGUMENT, () -> x.tie(ADOPTION, same, same, 0));
                refused(ARGUMENT, () -> x.join(same, same));
                refused(ARGUMENT, () -> x.likeness(same, same));
                // The asker may be the PERSON itself.
                due(NONE, x.origin(same, same));
            }
        }

        @Says("an IllegalStateException as told.")
        static void statesAreRefusedAsTold() {
            refused(STATE, () -> onTheLastDay().pass(1));
            refused(STATE, () -> grown(24).birth(0, NONE, 0, 0));
            refused(STATE, () -> fullOfActs().birth(0, NONE, 0, 0));
            refused(STATE, () -> fullOfNumbers().birth(0, NONE, 0, 0));
            refused(STATE, () -> fullOfNumbers().renumber(0));
            refused(STATE, () -> fullOfRolls().roll(ALL, 0));
            due(3, fullOfNumbers().move(0, 0, 0));
            due(3, fullOfRolls().move(0, 0, 0));
            due(3, onTheLastDay().birth(30000, NONE, 0, 0));
        }

        @Says("Days S and K that are asked for are 0 to the day of now,")
        static void daysAskedForGoFrom0ToNow() {
            Residentroll x = grown(1);
            x.pass(1);
            for (int day : new int[] {0, 10001}) {
                due(day == 0 ? UNBORN : LIVING, x.asOf(0, IS, 0, day));
                due(day == 0 ? 0 : 1, x.households(0, 0, day));
                due(day == 0 ? 0 : 1, x.money(0, 0, 1, day));
                due(0, x.changed(day, day, day));
                due(LIVING, x.asOf(0, IS, day, 10001));
            }
            for (int day : new int[] {-1, 10002}) {
                refused(ARGUMENT, () -> x.asOf(0, IS, 0, day));
                refused(ARGUMENT, () -> x.asOf(0, IS, day, 0));
                refused(ARGUMENT, () -> x.households(0, 0, day));
                refused(ARGUMENT, () -> x.households(0, day, 0));
                refused(ARGUMENT, () -> x.money(0, 0, 1, day));
                refused(ARGUMENT, () -> x.money(0, day, 1, 0));
                refused(ARGUMENT, () -> x.changed(day, 0, 0));
                refused(ARGUMENT, () -> x.changed(0, day, 0));
                refused(ARGUMENT, () -> x.changed(0, 0, day));
            }
        }

        @Says("each of them perhaps above the other one.")
        static void eitherDayMayBeTheLaterOne() {
            Residentroll x = grown(2);
            x.pass(220);
            x.move(0, 10050, 9);
            due(0, x.asOf(0, IS_IN, 10220, 10219));
            due(9, x.asOf(0, IS_IN, 10220, 10220));
            due(0, x.asOf(0, IS_IN, 10049, 10220));
            due(28, x.asOf(0, AGE, 28 * YEAR, 10000));
            due(1, x.households(0, 10220, 10000));
            due(0, x.households(0, 10220, 10220));
            due(2, x.money(0, 10220, 1, 10000));
            due(1, x.money(0, 10220, 1, 10220));
            due(1, x.changed(10220, 10000, 10220));
            due(1, x.changed(10220, 10220, 10000));
            due(0, x.changed(10049, 10000, 10220));
        }

        @Says("If several exceptions of a throws clause apply, the one that is listed first is thrown.")
        static void theExceptionListedFirstIsThrown() {
            Residentroll x = fullOfActs();
            List<Call> first = List.of(
                () -> x.birth(-1, 3, 0, 0), () -> x.birth(0, NONE, 16, -1), () -> x.move(3, -1, 0), () -> x.move(0, -1, 16), () -> x.naming(3, -1, -1),
                () -> x.tie(-1, 3, 3, -1), () -> x.tie(BOND, 0, 3, -1), () -> x.death(3, -1), () -> x.join(3, 0), () -> x.strike(150), () -> x.actOf(150, 5),
                () -> x.asOf(3, 7, -1, -1), () -> x.now(3, 7), () -> x.households(16, -1, -1), () -> x.money(4, -1, 0, -1), () -> x.likeness(3, 3),
                () -> x.roll(4, 4), () -> x.look(4, 3));
            for (Call call : first) {
                refused(INDEX, call);
            }
            List<Call> second = List.of(
                () -> x.birth(-1, NONE, 0, 0), () -> x.birth(0, NONE, 0, 1000), () -> x.move(0, -1, 0), () -> x.naming(0, 0, 1000), () -> x.tie(0, 0, 1, 0),
                () -> x.tie(BOND, 0, 0, 0), () -> x.tie(BOND, 0, 1, 10001), () -> x.death(0, 10001), () -> x.join(1, 0));
            for (Call call : second) {
                refused(ARGUMENT, call);
            }
            refused(ARGUMENT, () -> onTheLastDay().pass(0));
            refused(ARGUMENT, () -> onTheLastDay().pass(5001));
            refused(INDEX, () -> fullOfNumbers().renumber(3));
            refused(INDEX, () -> fullOfRolls().roll(4, 4));
            refused(ARGUMENT, () -> fullOfRolls().roll(4, 0));
            refused(INDEX, () -> grown(24).birth(0, 24, 0, 0));
            refused(ARGUMENT, () -> grown(24).birth(10001, NONE, 0, 0));
        }

        @Says("A call that throws an exception changes nothing.")
        static void aRefusedCallChangesNothing() {
            for (int off : new int[] {-2, 16, 10001}) {
                changesNothing(Rolls::lively, INDEX, x -> x.birth(9000, off, 0, 0));
                changesNothing(Rolls::lively, INDEX, x -> x.birth(9000, 0, off, 0));
                changesNothing(Rolls::lively, INDEX, x -> x.move(off, 9000, 0));
                changesNothing(Rolls::lively, INDEX, x -> x.move(0, 9000, off));
                changesNothing(Rolls::lively, INDEX, x -> x.naming(off, 9000, 0));
                changesNothing(Rolls::lively, INDEX, x -> x.tie(BOND, 0, off, 9000));
                changesNothing(Rolls::lively, ARGUMENT, x -> x.tie(off, 0, 1, 9000));
                changesNothing(Rolls::lively, INDEX, x -> x.death(off, 9000));
                changesNothing(Rolls::lively, INDEX, x -> x.join(0, off));
                changesNothing(Rolls::lively, INDEX, x -> x.strike(off));
                changesNothing(Rolls::lively, INDEX, x -> x.renumber(off));
                changesNothing(Rolls::lively, INDEX, x -> x.roll(ALL, off));
                changesNothing(Rolls::lively, ARGUMENT, x -> x.roll(off, 0));
                changesNothing(Rolls::lively, INDEX, x -> x.deliver(off));
                changesNothing(Rolls::lively, INDEX, x -> x.bar(off, true) ? 1 : 0);
                changesNothing(Rolls::lively, INDEX, x -> x.look(0, off));
                changesNothing(Rolls::lively, ARGUMENT, x -> x.look(off, 0));
            }
            for (int so : new int[] {-1, 10011}) {
                changesNothing(Rolls::lively, ARGUMENT, x -> x.pass(so));
                changesNothing(Rolls::lively, ARGUMENT, x -> x.birth(so, 0, 0, 0));
                changesNothing(Rolls::lively, ARGUMENT, x -> x.move(0, so, 0));
                changesNothing(Rolls::lively, ARGUMENT, x -> x.naming(0, so, 0));
                changesNothing(Rolls::lively, ARGUMENT, x -> x.naming(0, 9000, so));
                changesNothing(Rolls::lively, ARGUMENT, x -> x.tie(ADOPTION, 0, 1, so));
                changesNothing(Rolls::lively, ARGUMENT, x -> x.death(0, so));
            }
            changesNothing(Rolls::lively, ARGUMENT, x -> x.tie(BOND, 0, 0, 9000));
            changesNothing(Rolls::lively, ARGUMENT, x -> x.join(1, 0));
            changesNothing(Rolls::lively, STATE, x -> x.strike(6));
            changesNothing(Rolls::lively, STATE, x -> x.strike(7));
            refusedForTheState();
        }

        private static void refusedForTheState() {
            changesNothing(Checks::onTheLastDay, STATE, x -> x.pass(1));
            changesNothing(() -> grown(24), STATE, x -> x.birth(0, NONE, 0, 0));
            changesNothing(Checks::fullOfNumbers, STATE, x -> x.birth(0, NONE, 0, 0));
            changesNothing(Checks::fullOfNumbers, STATE, x -> x.renumber(0));
            changesNothing(Checks::fullOfRolls, STATE, x -> x.roll(TOWN, 1));
            changesNothing(Checks::fullOfActs, STATE, x -> x.birth(0, NONE, 0, 0));
            changesNothing(Checks::fullOfActs, STATE, x -> x.move(0, TODAY, 9));
            changesNothing(Checks::fullOfActs, STATE, x -> x.naming(0, TODAY, 9));
            changesNothing(Checks::fullOfActs, STATE, x -> x.tie(BOND, 0, 1, TODAY));
            changesNothing(Checks::fullOfActs, STATE, x -> x.death(0, TODAY));
            changesNothing(Checks::fullOfActs, STATE, x -> x.join(0, 1));
            changesNothing(Checks::fullOfActs, STATE, x -> x.strike(1));
        }

        /** Some of everything; ACT 7 struck ACT 6. */
        private static Residentroll lively() {
            Residentroll x = grown(4);
            x.tie(BOND, 0, 1, 5000);
            x.tie(ADOPTION, 2, 0, 5000);
            x.move(3, 6000, 9);
            x.strike(6);
            x.pass(10);
            x.renumber(1);
            x.roll(ALL, 0);
            x.roll(TOWN, 0);
            x.deliver(0);
            x.move(2, 10005, 5);
            x.join(1, 3);
            x.bar(2, true);
            x.look(1, 2);
            x.look(1, 0);
            return x;
        }

        @Says("The constants: `NONE = -1`: There is none.")
        static void noneIsMinusOne() {
            Residentroll x = grown(1);
            due(-1, Residentroll.NONE);
            due(-1, x.now(0, PARTNER));
            due(-1, x.doubleOf(0));
        }

        @Says("`HIDDEN = -2`: It may not be seen.")
        static void hiddenIsMinusTwo() {
            Residentroll x = grown(1);
            x.bar(0, true);
            due(-2, Residentroll.HIDDEN);
            due(-2, x.look(1, 0));
        }

        @Says("`UNBORN = 0, LIVING = 1, DEAD = 2, DOUBLE = 3`: What a PERSON is.")
        static void whatAPersonIs() {
            due("0 1 2 3", Residentroll.UNBORN + " " + Residentroll.LIVING + " " + Residentroll.DEAD + " " + Residentroll.DOUBLE);
            Residentroll x = grown(4);
            x.strike(0);
            x.death(2, 5000);
            x.join(1, 3);
            for (int is = 0; is <= 3; is++) {
                due(is, x.now(is, IS));
            }
        }

        @Says("`BIRTH = 0, MOVE = 1, NAMING = 2, BOND = 3, PARTING = 4, DEATH = 5, ADOPTION = 6, JOINING = 7, STRIKING = 8`: Kinds of ACTS.")
        static void kindsOfActsHaveTheirNumbers() {
            due("0 1 2 3 4 5 6 7 8", Residentroll.BIRTH + " " + Residentroll.MOVE + " " + Residentroll.NAMING + " " + Residentroll.BOND + " " + Residentroll.PARTING
                + " " + Residentroll.DEATH + " " + Residentroll.ADOPTION + " " + Residentroll.JOINING + " " + Residentroll.STRIKING);
            Residentroll x = grown(2);
            x.tie(3, 0, 1, 5000);
            due(1, x.now(0, PARTNER));
            x.tie(4, 0, 1, 5000);
            due(NONE, x.now(0, PARTNER));
            x.tie(6, 0, 1, 5000);
            due(1, x.now(0, MOTHER));
        }

        @Says("`ALL = 0, VOTES = 1, SCHOOL = 2, TOWN = 3`: Kinds of ROLLS.")
        static void kindsOfRollsHaveTheirNumbers() {
            due("0 1 2 3", Residentroll.ALL + " " + Residentroll.VOTES + " " + Residentroll.SCHOOL + " " + Residentroll.TOWN);
            Residentroll x = new Residentroll();
            x.birth(0, NONE, 0, 0);
            x.birth(TODAY - 10 * YEAR, NONE, 4, 0);
            int[] due = {2, 1, 1, 1};
            for (int kind = 0; kind <= 3; kind++) {
                x.roll(kind, 1);
                due(due[kind], x.owes(kind));
            }
        }

        @Says("`COMES = 1, GOES = 2, MOVED = 3`: Messages.")
        static void messagesHaveTheirNumbers() {
            due("1 2 3", Residentroll.COMES + " " + Residentroll.GOES + " " + Residentroll.MOVED);
            Residentroll x = grown(1);
            x.roll(ALL, 0);
            x.deliver(0);
            due(1, x.message(0, 0) % 10);
            x.move(0, TODAY, 1);
            x.deliver(0);
            due(3, x.message(0, 1) % 10);
            x.death(0, TODAY);
            x.deliver(0);
            due(2, x.message(0, 2) % 10);
        }
    }
}
