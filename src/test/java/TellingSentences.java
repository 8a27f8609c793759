/** Each sentence of the promises 1 to 9 (a new object, days and ACTS), with a test of its own. */
final class TellingSentences {
    private TellingSentences() { }

    @Says("Promise 1")
    static final class Promise1 extends Checks {
        @Says("No ACTS;")
        static void aNewObjectHasNothing() {
            Residentroll x = new Residentroll();
            refused(INDEX, () -> x.actOf(0, 0));
            refused(INDEX, () -> x.strike(0));
            refused(INDEX, () -> x.now(0, IS));
            refused(INDEX, () -> x.owes(0));
            due(NONE, x.bearer(10017));
            for (int dwelling = 0; dwelling < 16; dwelling++) {
                due(0, x.households(dwelling, TODAY, TODAY));
            }
            due(0, x.money(0, TODAY - 59, 60, TODAY));
            due(0, x.changed(TODAY, 0, TODAY));
            due(0, x.roll(ALL, 0));
            due(0, x.owes(0));
            due(0, x.deliver(0));
            refused(INDEX, () -> x.message(0, 0));
        }

        @Says("the day of now is 10000.")
        static void aNewObjectIsOnDay10000() {
            due(10000, new Residentroll().day());
            due(10001, new Residentroll().pass(1));
            due(15000, new Residentroll().pass(5000));
        }
    }

    @Says("Promise 2")
    static final class Promise2 extends Checks {
        @Says("Lets days pass.")
        static void daysPass() {
            Residentroll x = grown(1);
            x.pass(3);
            due(10003, x.day());
            x.pass(4);
            due(10007, x.day());
            due(10007, x.actOf(x.move(0, 10007, 1), 1));
            // 28 years after its BIRTH
            x.pass(28 * YEAR - 10007 - 1);
            due(27, x.now(0, AGE));
            x.pass(1);
            due(28, x.now(0, AGE));
        }

        @Says("`days`: 1 to 5000")
        static void oneTo5000DaysPass() {
            Residentroll x = new Residentroll();
            due(10001, x.pass(1));
            due(15001, x.pass(5000));
            refused(ARGUMENT, () -> x.pass(0));
            refused(ARGUMENT, () -> x.pass(5001));
            due(15001, x.day());
        }

        @Says("Returns the day of now then.")
        static void passReturnsTheDay() {
            Residentroll x = new Residentroll();
            for (int i = 1; i <= 20; i++) {
                due(10000 + 10 * i, x.pass(10));
                due(10000 + 10 * i, x.day());
            }
        }

        @Says("Throws `IllegalArgumentException` if days is out of range")
        static void daysOutOfRangeAreRefused() {
            Residentroll x = new Residentroll();
            for (int days : new int[] {0, -1, -5000, -10000, 5001, 20000, 20001}) {
                refused(ARGUMENT, () -> x.pass(days));
            }
            for (int days : FAR_OFF) {
                refused(ARGUMENT, () -> x.pass(days));
            }
            due(10000, x.day());
        }

        @Says("Throws `IllegalStateException` if it would be above 30000")
        static void noDayIsAbove30000() {
            Residentroll x = new Residentroll();
            x.pass(5000);
            x.pass(5000);
            x.pass(5000);
            x.pass(4000);
            refused(STATE, () -> x.pass(1001));
            refused(STATE, () -> x.pass(5000));
            due(29000, x.day());
            due(30000, x.pass(1000));
            refused(STATE, () -> x.pass(1));
            refused(ARGUMENT, () -> x.pass(0));
            due(30000, x.day());
        }
    }

    @Says("Promise 3")
    static final class Promise3 extends Checks {
        @Says("Tells a BIRTH;")
        static void aBirthIsTold() {
            Residentroll x = new Residentroll();
            x.birth(9000, NONE, 5, 6);
            due(LIVING, x.now(0, IS));
            due(5, x.now(0, IS_IN));
            due(6, x.now(0, NAME));
            due(NONE, x.now(0, PARTNER));
            due(NONE, x.now(0, MOTHER));
            due(2, x.now(0, AGE));
            due(Residentroll.BIRTH, x.actOf(0, 0));
            due(0, x.actOf(0, 3));
        }

        @Says("it is the ACT with the next number.")
        static void aBirthIsTheNextAct() {
            Residentroll x = grown(2);
            x.move(0, 9000, 0);
            due(2, x.birth(9000, NONE, 0, 0));
            due(Residentroll.BIRTH, x.actOf(3, 0));
            due(2, x.actOf(3, 3));
            due(4, x.move(0, 9000, 0));
        }

        @Says("`so`: 0 to the day of now")
        static void aBirthWasSoFrom0ToNow() {
            Residentroll x = new Residentroll();
            due(0, x.birth(0, NONE, 0, 0));
            due(1, x.birth(10000, NONE, 0, 0));
            refused(ARGUMENT, () -> x.birth(-1, NONE, 0, 0));
            refused(ARGUMENT, () -> x.birth(10001, NONE, 0, 0));
            due(27, x.now(0, AGE));
            due(0, x.now(1, AGE));
            x.pass(1);
            due(2, x.birth(10001, NONE, 0, 0));
        }

        @Says("`mother`: a PERSON, or NONE")
        static void aMotherIsAPersonOrNone() {
            Residentroll x = new Residentroll();
            refused(INDEX, () -> x.birth(0, 0, 0, 0));
            due(0, x.birth(0, NONE, 0, 0));
            due(1, x.birth(1, 0, 0, 0));
            due(2, x.birth(2, 1, 0, 0));
            refused(INDEX, () -> x.birth(2, 3, 0, 0));
            refused(INDEX, () -> x.birth(2, -2, 0, 0));
            due(0, x.now(1, MOTHER));
            due(1, x.now(2, MOTHER));
        }

        @Says("`dwelling`: 0 to 15")
        static void aBirthIsInADwelling() {
            Residentroll x = new Residentroll();
            x.birth(0, NONE, 0, 0);
            x.birth(0, NONE, 15, 0);
            due(0, x.now(0, IS_IN));
            due(15, x.now(1, IS_IN));
            refused(INDEX, () -> x.birth(0, NONE, -1, 0));
            refused(INDEX, () -> x.birth(0, NONE, 16, 0));
        }

        @Says("`name`: 0 to 999")
        static void aBirthHasAName() {
            Residentroll x = new Residentroll();
            x.birth(0, NONE, 0, 0);
            x.birth(0, NONE, 0, 999);
            due(0, x.now(0, NAME));
            due(999, x.now(1, NAME));
            refused(ARGUMENT, () -> x.birth(0, NONE, 0, -1));
            refused(ARGUMENT, () -> x.birth(0, NONE, 0, 1000));
        }

        @Says("Returns the number of the PERSON.")
        static void aBirthReturnsThePerson() {
            Residentroll x = new Residentroll();
            for (int person = 0; person < 24; person++) {
                due(person, x.birth(10000 - person, NONE, 0, 0));
                x.naming(person, 10000, person);
            }
            due(23, x.now(23, NAME));
        }

        @Says("Throws `IndexOutOfBoundsException` if there is no such PERSON (and mother is not NONE) or DWELLING")
        static void aBirthOfNoSuchMotherOrDwellingIsRefused() {
            Residentroll x = grown(2);
            for (int none : new int[] {2, 23, 24, -2, -3}) {
                refused(INDEX, () -> x.birth(500, none, 0, 0));
            }
            for (int none : new int[] {-1, -2, 16, 17, 23}) {
                refused(INDEX, () -> x.birth(500, NONE, none, 0));
            }
            for (int none : FAR_OFF) {
                refused(INDEX, () -> x.birth(500, none, 0, 0));
                refused(INDEX, () -> x.birth(500, NONE, none, 0));
            }
            refused(INDEX, () -> x.birth(-1, 2, 16, -1));
            refused(INDEX, () -> x.now(2, IS));
            due(NONE, x.bearer(10036));
            due(2, x.birth(500, NONE, 0, 0));
        }

        @Says("Throws `IllegalArgumentException` if so or name is out of range")
        static void aBirthOfAWrongDayOrNameIsRefused() {
            Residentroll x = grown(2);
            refused(ARGUMENT, () -> x.birth(10001, NONE, 0, 0));
            refused(ARGUMENT, () -> x.birth(-1, 0, 15, 999));
            refused(ARGUMENT, () -> x.birth(500, NONE, 0, 1000));
            refused(ARGUMENT, () -> x.birth(500, NONE, 0, -1));
            for (int off : FAR_OFF) {
                refused(ARGUMENT, () -> x.birth(off, NONE, 0, 0));
                refused(ARGUMENT, () -> x.birth(500, NONE, 0, off));
            }
            refused(INDEX, () -> x.now(2, IS));
            refused(INDEX, () -> x.actOf(2, 0));
            due(NONE, x.bearer(10036));
        }

        @Says("Throws `IllegalStateException` if there are 24 PERSONS")
        static void the25thBirthIsRefused() {
            Residentroll x = grown(23);
            due(23, x.birth(500, NONE, 0, 0));
            refused(STATE, () -> x.birth(500, NONE, 0, 0));
            // A struck BIRTH and a double are PERSONS as well.
            x.strike(23);
            x.join(0, 1);
            refused(STATE, () -> x.birth(500, NONE, 0, 0));
            refused(ARGUMENT, () -> x.birth(-1, NONE, 0, 0));
            refused(INDEX, () -> x.birth(500, 24, 0, 0));
            due(26, x.move(0, 9000, 0));
        }

        @Says("or 150 ACTS,")
        static void aBirthAsThe151stActIsRefused() {
            Residentroll x = grown(1);
            for (int told = 1; told < 149; told++) {
                x.move(0, 9000, 0);
            }
            due(1, x.birth(500, NONE, 0, 0));
            due(Residentroll.BIRTH, x.actOf(149, 0));
            refused(STATE, () -> x.birth(500, NONE, 0, 0));
            refused(INDEX, () -> x.now(2, IS));
            due(NONE, x.bearer(10036));
            refused(ARGUMENT, () -> x.birth(500, NONE, 0, 1000));
            refused(INDEX, () -> x.birth(500, NONE, 16, 0));
        }

        @Says("or 60 numbers were given")
        static void aBirthWithoutANumberIsRefused() {
            Residentroll x = fullOfNumbers();
            refused(STATE, () -> x.birth(500, NONE, 0, 0));
            refused(INDEX, () -> x.now(3, IS));
            refused(INDEX, () -> x.actOf(3, 0));
            refused(ARGUMENT, () -> x.birth(10001, NONE, 0, 0));
            refused(INDEX, () -> x.birth(10001, 3, 0, 0));
            due(3, x.move(0, 9000, 0));
        }
    }

    @Says("Promise 4")
    static final class Promise4 extends Checks {
        @Says("Tells a MOVE.")
        static void aMoveIsTold() {
            Residentroll x = grown(2);
            x.move(1, 9000, 15);
            due(15, x.now(1, IS_IN));
            due(1, x.asOf(1, IS_IN, 8999, TODAY));
            due(Residentroll.MOVE, x.actOf(2, 0));
            due(9000, x.actOf(2, 2));
            due(1, x.actOf(2, 3));
            // told late
            x.move(1, 8000, 14);
            due(15, x.now(1, IS_IN));
            due(14, x.asOf(1, IS_IN, 8999, TODAY));
        }

        @Says("`person`: a PERSON")
        static void aMoveIsOfAPerson() {
            Residentroll x = grown(3);
            due(3, x.move(0, 9000, 7));
            due(4, x.move(2, 9000, 8));
            due(7, x.now(0, IS_IN));
            due(1, x.now(1, IS_IN));
            due(8, x.now(2, IS_IN));
            refused(INDEX, () -> x.move(3, 9000, 8));
            refused(INDEX, () -> x.move(-1, 9000, 8));
            refused(INDEX, () -> new Residentroll().move(0, 9000, 8));
        }

        @Says("`so`: 0 to the day of now")
        static void aMoveWasSoFrom0ToNow() {
            Residentroll x = grown(1);
            due(1, x.move(0, 0, 4));
            due(4, x.asOf(0, IS_IN, 0, TODAY));
            due(2, x.move(0, 10000, 5));
            due(4, x.asOf(0, IS_IN, 9999, TODAY));
            due(5, x.now(0, IS_IN));
            refused(ARGUMENT, () -> x.move(0, -1, 0));
            refused(ARGUMENT, () -> x.move(0, 10001, 0));
        }

        @Says("`dwelling`: 0 to 15")
        static void aMoveIsToADwelling() {
            Residentroll x = grown(1);
            for (int dwelling = 15; dwelling >= 0; dwelling--) {
                x.move(0, 9000, dwelling);
                due(dwelling, x.now(0, IS_IN));
            }
            refused(INDEX, () -> x.move(0, 9000, -1));
            refused(INDEX, () -> x.move(0, 9000, 16));
        }

        @Says("Returns the number of the ACT.")
        static void aMoveReturnsTheAct() {
            Residentroll x = grown(2);
            for (int act = 2; act < 150; act++) {
                due(act, x.move(act % 2, 10000 - act, act % 16));
            }
        }

        @Says("Throws `IndexOutOfBoundsException` if there is no such PERSON or DWELLING")
        static void aMoveOfNoSuchPersonOrDwellingIsRefused() {
            Residentroll x = grown(2);
            for (int none : FAR_OFF) {
                refused(INDEX, () -> x.move(none, 9000, 0));
                refused(INDEX, () -> x.move(0, 9000, none));
            }
            refused(INDEX, () -> x.move(2, 9000, 0));
            refused(INDEX, () -> x.move(-1, -1, 0));
            refused(INDEX, () -> x.move(0, 10001, 16));
            due(2, x.move(0, 9000, 0));
        }

        @Says("Throws `IllegalArgumentException` if so is out of range")
        static void aMoveOfAWrongDayIsRefused() {
            Residentroll x = grown(1);
            refused(ARGUMENT, () -> x.move(0, 10001, 5));
            refused(ARGUMENT, () -> x.move(0, -1, 5));
            for (int off : FAR_OFF) {
                refused(ARGUMENT, () -> x.move(0, off, 5));
            }
            due(0, x.now(0, IS_IN));
            refused(INDEX, () -> x.actOf(1, 0));
        }

        @Says("Throws `IllegalStateException` if there are 150 ACTS")
        static void aMoveAsThe151stActIsRefused() {
            Residentroll x = grown(1);
            fillActs(x, 1);
            refused(STATE, () -> x.move(0, 10000, 5));
            due(0, x.now(0, IS_IN));
            refused(ARGUMENT, () -> x.move(0, 10001, 5));
            refused(INDEX, () -> x.move(1, 10000, 5));
            refused(INDEX, () -> x.move(0, 10000, 16));
            refused(INDEX, () -> x.actOf(150, 0));
        }
    }

    @Says("Promise 5")
    static final class Promise5 extends Checks {
        @Says("Tells a NAMING.")
        static void aNamingIsTold() {
            Residentroll x = grown(2);
            x.naming(1, 9000, 500);
            due(500, x.now(1, NAME));
            due(1, x.asOf(1, NAME, 8999, TODAY));
            due(Residentroll.NAMING, x.actOf(2, 0));
            due(9000, x.actOf(2, 2));
            due(1, x.actOf(2, 3));
            x.naming(1, 8000, 400);
            due(500, x.now(1, NAME));
            due(400, x.asOf(1, NAME, 8999, TODAY));
        }

        @Says("`person`: a PERSON")
        static void aNamingIsOfAPerson() {
            Residentroll x = grown(3);
            due(3, x.naming(0, 9000, 7));
            due(4, x.naming(2, 9000, 8));
            due(7, x.now(0, NAME));
            due(1, x.now(1, NAME));
            due(8, x.now(2, NAME));
            refused(INDEX, () -> x.naming(3, 9000, 8));
            refused(INDEX, () -> x.naming(-1, 9000, 8));
        }

        @Says("`so`: 0 to the day of now")
        static void aNamingWasSoFrom0ToNow() {
            Residentroll x = grown(1);
            due(1, x.naming(0, 0, 4));
            due(4, x.asOf(0, NAME, 0, TODAY));
            due(2, x.naming(0, 10000, 5));
            due(4, x.asOf(0, NAME, 9999, TODAY));
            due(5, x.now(0, NAME));
            refused(ARGUMENT, () -> x.naming(0, -1, 0));
            refused(ARGUMENT, () -> x.naming(0, 10001, 0));
        }

        @Says("`name`: 0 to 999")
        static void aNameIsFrom0To999() {
            Residentroll x = grown(2);
            x.naming(1, 9000, 999);
            due(999, x.now(1, NAME));
            x.naming(1, 9000, 0);
            due(0, x.now(1, NAME));
            refused(ARGUMENT, () -> x.naming(1, 9000, -1));
            refused(ARGUMENT, () -> x.naming(1, 9000, 1000));
        }

        @Says("Returns the number of the ACT.")
        static void aNamingReturnsTheAct() {
            Residentroll x = grown(2);
            for (int act = 2; act < 150; act++) {
                due(act, x.naming(act % 2, 10000 - act, act));
            }
        }

        @Says("Throws `IndexOutOfBoundsException` if there is no such PERSON")
        static void aNamingOfNoSuchPersonIsRefused() {
            Residentroll x = grown(2);
            for (int none : FAR_OFF) {
                refused(INDEX, () -> x.naming(none, 9000, 0));
            }
            refused(INDEX, () -> x.naming(2, 9000, 0));
            refused(INDEX, () -> x.naming(-1, -1, 1000));
            due(2, x.naming(0, 9000, 0));
        }

        @Says("Throws `IllegalArgumentException` if so or name is out of range")
        static void aNamingOfAWrongDayOrNameIsRefused() {
            Residentroll x = grown(2);
            refused(ARGUMENT, () -> x.naming(1, 10001, 5));
            refused(ARGUMENT, () -> x.naming(1, -1, 5));
            refused(ARGUMENT, () -> x.naming(1, 9000, 1000));
            refused(ARGUMENT, () -> x.naming(1, 9000, -1));
            for (int off : FAR_OFF) {
                refused(ARGUMENT, () -> x.naming(1, off, 5));
                refused(ARGUMENT, () -> x.naming(1, 9000, off));
            }
            due(1, x.now(1, NAME));
            refused(INDEX, () -> x.actOf(2, 0));
        }

        @Says("Throws `IllegalStateException` if there are 150 ACTS")
        static void aNamingAsThe151stActIsRefused() {
            Residentroll x = fullOfActs();
            refused(STATE, () -> x.naming(0, 10000, 5));
            due(0, x.now(0, NAME));
            refused(ARGUMENT, () -> x.naming(0, 10000, 1000));
            refused(ARGUMENT, () -> x.naming(0, 10001, 5));
            refused(INDEX, () -> x.naming(3, 10000, 5));
        }
    }

    @Says("Promise 6")
    static final class Promise6 extends Checks {
        @Says("Tells a BOND, a PARTING or an ADOPTION.")
        static void aTieIsTold() {
            Residentroll x = grown(3);
            x.tie(BOND, 2, 1, 7000);
            x.tie(PARTING, 1, 2, 8000);
            x.tie(ADOPTION, 2, 1, 9000);
            int[][] rows = {{BOND, 7000, 2}, {PARTING, 8000, 1}, {ADOPTION, 9000, 2}};
            for (int i = 0; i < 3; i++) {
                due(rows[i][0], x.actOf(3 + i, 0));
                due(rows[i][1], x.actOf(3 + i, 2));
                due(rows[i][2], x.actOf(3 + i, 3));
            }
            due(NONE, x.asOf(1, PARTNER, 6999, TODAY));
            due(2, x.asOf(1, PARTNER, 7000, TODAY));
            due(2, x.asOf(1, PARTNER, 7999, TODAY));
            due(NONE, x.asOf(1, PARTNER, 8000, TODAY));
            due(NONE, x.asOf(2, MOTHER, 8999, TODAY));
            due(1, x.asOf(2, MOTHER, 9000, TODAY));
        }

        @Says("`kind`: BOND, PARTING or ADOPTION")
        static void aTieIsOfThreeKinds() {
            Residentroll x = grown(2);
            for (int kind = -1; kind <= 9; kind++) {
                int asks = kind;
                if (kind == BOND || kind == PARTING || kind == ADOPTION) {
                    due(kind, x.actOf(x.tie(kind, 0, 1, 9000), 0));
                } else {
                    refused(ARGUMENT, () -> x.tie(asks, 0, 1, 9000));
                }
            }
        }

        @Says("`person`: a PERSON")
        static void aTieIsOfAPerson() {
            Residentroll x = grown(24);
            due(24, x.tie(ADOPTION, 23, 0, 9000));
            due(25, x.tie(ADOPTION, 0, 23, 9000));
            due(0, x.now(23, MOTHER));
            due(23, x.now(0, MOTHER));
            refused(INDEX, () -> x.tie(ADOPTION, 24, 0, 9000));
            refused(INDEX, () -> x.tie(ADOPTION, -1, 0, 9000));
        }

        @Says("`other`: another PERSON;")
        static void aTieIsToAnotherPerson() {
            Residentroll x = grown(24);
            due(24, x.tie(BOND, 0, 23, 9000));
            due(25, x.tie(BOND, 22, 1, 9000));
            due(23, x.now(0, PARTNER));
            due(22, x.now(1, PARTNER));
            refused(INDEX, () -> x.tie(BOND, 0, 24, 9000));
            refused(INDEX, () -> x.tie(BOND, 0, -1, 9000));
            refused(ARGUMENT, () -> x.tie(BOND, 0, 0, 9000));
            refused(ARGUMENT, () -> x.tie(BOND, 23, 23, 9000));
        }

        @Says("of an ADOPTION the mother")
        static void theOtherOneIsTheMother() {
            Residentroll x = grown(2);
            x.tie(ADOPTION, 0, 1, 9000);
            due(1, x.now(0, MOTHER));
            due(NONE, x.now(1, MOTHER));
            due(NONE, x.now(0, PARTNER));
        }

        @Says("`so`: 0 to the day of now")
        static void aTieWasSoFrom0ToNow() {
            Residentroll x = new Residentroll();
            x.birth(0, NONE, 0, 0);
            x.birth(0, NONE, 0, 0);
            due(2, x.tie(BOND, 0, 1, 0));
            due(1, x.asOf(0, PARTNER, 0, TODAY));
            due(3, x.tie(PARTING, 0, 1, 10000));
            due(1, x.asOf(0, PARTNER, 9999, TODAY));
            due(NONE, x.now(0, PARTNER));
            refused(ARGUMENT, () -> x.tie(BOND, 0, 1, -1));
            refused(ARGUMENT, () -> x.tie(BOND, 0, 1, 10001));
        }

        @Says("Returns the number of the ACT.")
        static void aTieReturnsTheAct() {
            Residentroll x = grown(2);
            int[] kinds = {BOND, PARTING, ADOPTION};
            for (int act = 2; act < 150; act++) {
                due(act, x.tie(kinds[act % 3], act % 2, 1 - act % 2, 10000 - act));
            }
        }

        @Says("Throws `IndexOutOfBoundsException` if there is no such PERSON, of both")
        static void aTieOfNoSuchPersonIsRefused() {
            Residentroll x = grown(2);
            for (int none : FAR_OFF) {
                refused(INDEX, () -> x.tie(BOND, none, 0, 9000));
                refused(INDEX, () -> x.tie(BOND, 0, none, 9000));
                refused(INDEX, () -> x.tie(BOND, none, none, 9000));
            }
            refused(INDEX, () -> x.tie(ADOPTION, 0, NONE, 9000));
            refused(INDEX, () -> x.tie(ADOPTION, 2, 0, 9000));
            refused(INDEX, () -> x.tie(PARTING, 0, 2, 9000));
            refused(INDEX, () -> x.tie(-1, 2, 2, -1));
            due(2, x.tie(BOND, 0, 1, 9000));
        }

        @Says("Throws `IllegalArgumentException` if kind or so is out of range, or both are the same")
        static void aTieOfAWrongKindOrDayOrOfOneIsRefused() {
            Residentroll x = grown(2);
            for (int off : FAR_OFF) {
                refused(ARGUMENT, () -> x.tie(off, 0, 1, 9000));
                refused(ARGUMENT, () -> x.tie(BOND, 0, 1, off));
            }
            for (int kind : new int[] {-1, 0, 1, 2, 5, 7, 8, 9}) {
                refused(ARGUMENT, () -> x.tie(kind, 0, 1, 9000));
            }
            for (int kind : new int[] {BOND, PARTING, ADOPTION}) {
                refused(ARGUMENT, () -> x.tie(kind, 1, 1, 9000));
                refused(ARGUMENT, () -> x.tie(kind, 0, 1, 10001));
                refused(ARGUMENT, () -> x.tie(kind, 0, 1, -1));
            }
            due(NONE, x.now(0, PARTNER));
            due(NONE, x.now(1, MOTHER));
            refused(INDEX, () -> x.actOf(2, 0));
        }

        @Says("Throws `IllegalStateException` if there are 150 ACTS")
        static void aTieAsThe151stActIsRefused() {
            Residentroll x = fullOfActs();
            for (int kind : new int[] {BOND, PARTING, ADOPTION}) {
                refused(STATE, () -> x.tie(kind, 0, 1, 10000));
                refused(ARGUMENT, () -> x.tie(kind, 0, 1, 10001));
                refused(ARGUMENT, () -> x.tie(kind, 0, 0, 10000));
                refused(INDEX, () -> x.tie(kind, 0, 3, 10000));
            }
            due(NONE, x.now(0, PARTNER));
            due(NONE, x.now(0, MOTHER));
        }
    }

    @Says("Promise 7")
    static final class Promise7 extends Checks {
        @Says("Tells a DEATH.")
        static void aDeathIsTold() {
            Residentroll x = grown(2);
            due(2, x.death(1, 9000));
            due(DEAD, x.now(1, IS));
            due(LIVING, x.asOf(1, IS, 8999, TODAY));
            due(Residentroll.DEATH, x.actOf(2, 0));
            due(9000, x.actOf(2, 2));
            due(1, x.actOf(2, 3));
            // a DEATH told late, of an earlier day, is the one that counts
            x.death(1, 8000);
            due(DEAD, x.asOf(1, IS, 8000, TODAY));
            due(LIVING, x.asOf(1, IS, 7999, TODAY));
        }

        @Says("`person`: a PERSON")
        static void aDeathIsOfAPerson() {
            Residentroll x = grown(24);
            due(24, x.death(0, 9000));
            due(25, x.death(23, 9000));
            due(DEAD, x.now(0, IS));
            due(DEAD, x.now(23, IS));
            due(LIVING, x.now(1, IS));
            due(LIVING, x.now(22, IS));
            refused(INDEX, () -> x.death(24, 9000));
            refused(INDEX, () -> x.death(-1, 9000));
        }

        @Says("`so`: 0 to the day of now")
        static void aDeathWasSoFrom0ToNow() {
            Residentroll x = new Residentroll();
            x.birth(0, NONE, 0, 0);
            x.birth(0, NONE, 0, 0);
            due(2, x.death(0, 0));
            due(DEAD, x.asOf(0, IS, 0, TODAY));
            due(3, x.death(1, 10000));
            due(LIVING, x.asOf(1, IS, 9999, TODAY));
            due(DEAD, x.now(1, IS));
            refused(ARGUMENT, () -> x.death(0, -1));
            refused(ARGUMENT, () -> x.death(0, 10001));
        }

        @Says("Returns the number of the ACT.")
        static void aDeathReturnsTheAct() {
            Residentroll x = grown(2);
            for (int act = 2; act < 150; act++) {
                due(act, x.death(act % 2, 10000 - act));
            }
        }

        @Says("Throws `IndexOutOfBoundsException` if there is no such PERSON")
        static void aDeathOfNoSuchPersonIsRefused() {
            Residentroll x = grown(2);
            for (int none : FAR_OFF) {
                refused(INDEX, () -> x.death(none, 9000));
            }
            refused(INDEX, () -> x.death(2, 9000));
            refused(INDEX, () -> x.death(-1, -1));
            due(2, x.death(0, 9000));
        }

        @Says("Throws `IllegalArgumentException` if so is out of range")
        static void aDeathOfAWrongDayIsRefused() {
            Residentroll x = grown(1);
            refused(ARGUMENT, () -> x.death(0, 10001));
            refused(ARGUMENT, () -> x.death(0, -1));
            for (int off : FAR_OFF) {
                refused(ARGUMENT, () -> x.death(0, off));
            }
            due(LIVING, x.now(0, IS));
            refused(INDEX, () -> x.actOf(1, 0));
        }

        @Says("Throws `IllegalStateException` if there are 150 ACTS")
        static void aDeathAsThe151stActIsRefused() {
            Residentroll x = fullOfActs();
            refused(STATE, () -> x.death(0, 10000));
            due(LIVING, x.now(0, IS));
            refused(ARGUMENT, () -> x.death(0, 10001));
            refused(INDEX, () -> x.death(3, 10000));
        }
    }

    @Says("Promise 8")
    static final class Promise8 extends Checks {
        @Says("Tells a JOINING.")
        static void aJoiningIsTold() {
            Residentroll x = grown(3);
            x.pass(3);
            x.join(0, 2);
            due(Residentroll.JOINING, x.actOf(3, 0));
            due(10003, x.actOf(3, 1));
            due(NONE, x.actOf(3, 2));
            due(0, x.actOf(3, 3));
            due(DOUBLE, x.now(2, IS));
            due(LIVING, x.now(0, IS));
            due(LIVING, x.asOf(2, IS, 10003, 10002));
        }

        @Says("`person`: a PERSON")
        static void aJoiningIsOfAPerson() {
            Residentroll x = grown(24);
            due(24, x.join(0, 1));
            due(25, x.join(22, 23));
            due(DOUBLE, x.now(1, IS));
            due(DOUBLE, x.now(23, IS));
            refused(INDEX, () -> x.join(-1, 0));
            refused(INDEX, () -> x.join(24, 0));
        }

        @Says("`other`: a PERSON with a higher number: the double")
        static void theOtherOneIsTheDouble() {
            Residentroll x = grown(24);
            refused(ARGUMENT, () -> x.join(23, 0));
            refused(ARGUMENT, () -> x.join(1, 0));
            refused(ARGUMENT, () -> x.join(1, 1));
            refused(INDEX, () -> x.join(23, 24));
            due(24, x.join(1, 2));
            due(25, x.join(0, 23));
            due(LIVING, x.now(0, IS));
            due(LIVING, x.now(1, IS));
            due(DOUBLE, x.now(2, IS));
            due(DOUBLE, x.now(23, IS));
        }

        @Says("Returns the number of the ACT.")
        static void aJoiningReturnsTheAct() {
            Residentroll x = grown(24);
            for (int act = 24; act < 150; act++) {
                due(act, x.join(0, 1 + act % 23));
            }
        }

        @Says("Throws `IndexOutOfBoundsException` if there is no such PERSON, of both")
        static void aJoiningOfNoSuchPersonIsRefused() {
            Residentroll x = grown(2);
            for (int none : FAR_OFF) {
                refused(INDEX, () -> x.join(none, 1));
                refused(INDEX, () -> x.join(0, none));
                refused(INDEX, () -> x.join(none, none));
            }
            refused(INDEX, () -> x.join(0, 2));
            refused(INDEX, () -> x.join(2, 0));
            refused(INDEX, () -> x.join(1, NONE));
            due(2, x.join(0, 1));
        }

        @Says("Throws `IllegalArgumentException` if the number of the other one is not higher")
        static void aJoiningToALowerNumberIsRefused() {
            Residentroll x = grown(3);
            for (int person = 0; person < 3; person++) {
                for (int other = 0; other <= person; other++) {
                    int higher = person;
                    int lower = other;
                    refused(ARGUMENT, () -> x.join(higher, lower));
                }
            }
            for (int person = 0; person < 3; person++) {
                due(LIVING, x.now(person, IS));
            }
            due(3, x.join(0, 1));
            refused(ARGUMENT, () -> x.join(1, 0));
        }

        @Says("Throws `IllegalStateException` if there are 150 ACTS")
        static void aJoiningAsThe151stActIsRefused() {
            Residentroll x = fullOfActs();
            refused(STATE, () -> x.join(0, 1));
            due(LIVING, x.now(1, IS));
            refused(ARGUMENT, () -> x.join(1, 0));
            refused(INDEX, () -> x.join(0, 3));
        }
    }

    @Says("Promise 9")
    static final class Promise9 extends Checks {
        @Says("Tells a STRIKING.")
        static void aStrikingIsTold() {
            Residentroll x = grown(1);
            x.move(0, 9000, 5);
            x.pass(3);
            x.strike(1);
            due(Residentroll.STRIKING, x.actOf(2, 0));
            due(10003, x.actOf(2, 1));
            due(NONE, x.actOf(2, 2));
            due(NONE, x.actOf(2, 3));
            due(NONE, x.actOf(2, 4));
            due(2, x.actOf(1, 4));
            due(0, x.now(0, IS_IN));
            due(5, x.asOf(0, IS_IN, 10003, 10002));
            // what was struck can be told once more
            due(3, x.move(0, 9000, 5));
            due(5, x.now(0, IS_IN));
        }

        @Says("`act`: the ACT that is struck")
        static void anyActButAStrikingCanBeStruck() {
            Residentroll x = grown(4);
            x.move(0, 9000, 9);
            x.naming(0, 9000, 99);
            x.tie(BOND, 0, 1, 8000);
            x.tie(PARTING, 0, 1, 9000);
            x.tie(ADOPTION, 0, 1, 9000);
            x.join(2, 3);
            x.death(1, 9000);
            due(11, x.strike(10));
            due(LIVING, x.now(1, IS));
            due(12, x.strike(9));
            due(LIVING, x.now(3, IS));
            due(13, x.strike(8));
            due(NONE, x.now(0, MOTHER));
            due(14, x.strike(7));
            due(1, x.now(0, PARTNER));
            due(15, x.strike(6));
            due(NONE, x.now(0, PARTNER));
            due(16, x.strike(5));
            due(0, x.now(0, NAME));
            due(17, x.strike(4));
            due(0, x.now(0, IS_IN));
            due(18, x.strike(0));
            due(UNBORN, x.now(0, IS));
        }

        @Says("Returns the number of the STRIKING.")
        static void aStrikingReturnsItsNumber() {
            Residentroll x = grown(1);
            for (int act = 1; act < 75; act++) {
                x.move(0, 9000, act % 16);
            }
            for (int act = 0; act < 75; act++) {
                due(75 + act, x.strike(act));
                due(75 + act, x.actOf(act, 4));
            }
        }

        @Says("Throws `IndexOutOfBoundsException` if there is no such ACT")
        static void strikingNoSuchActIsRefused() {
            Residentroll x = grown(2);
            for (int none : new int[] {-1, -2, 2, 3, 149, 150}) {
                refused(INDEX, () -> x.strike(none));
            }
            for (int none : FAR_OFF) {
                refused(INDEX, () -> x.strike(none));
            }
            refused(INDEX, () -> new Residentroll().strike(0));
            refused(INDEX, () -> fullOfActs().strike(150));
            due(2, x.strike(1));
        }

        @Says("Throws `IllegalStateException` if it is a STRIKING,")
        static void aStrikingCanNotBeStruck() {
            Residentroll x = grown(2);
            x.strike(1);
            refused(STATE, () -> x.strike(2));
            x.pass(1);
            refused(STATE, () -> x.strike(2));
            due(UNBORN, x.now(1, IS));
            due(NONE, x.actOf(2, 4));
            due(3, x.strike(0));
        }

        @Says("or struck,")
        static void whatIsStruckCanNotBeStruckAgain() {
            Residentroll x = grown(2);
            x.strike(0);
            refused(STATE, () -> x.strike(0));
            x.pass(1);
            refused(STATE, () -> x.strike(0));
            due(2, x.actOf(0, 4));
            refused(INDEX, () -> x.actOf(3, 0));
        }

        @Says("or there are 150 ACTS")
        static void aStrikingAsThe151stActIsRefused() {
            Residentroll x = grown(1);
            for (int act = 1; act < 149; act++) {
                x.move(0, 9000, 9);
            }
            due(149, x.strike(148));
            refused(STATE, () -> x.strike(0));
            due(NONE, x.actOf(0, 4));
            due(LIVING, x.now(0, IS));
            refused(STATE, () -> x.strike(149));
            refused(STATE, () -> x.strike(148));
            refused(INDEX, () -> x.strike(150));
        }
    }
}
