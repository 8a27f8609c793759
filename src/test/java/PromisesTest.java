/** For each promise: ordinary inputs, the edges that the document names, and wrong inputs. */
public final class PromisesTest extends Checks {
    private static int promise = 0;

    public static void main(String[] args) {
        for (promise = 1; promise <= 31; promise++) {
            int before = checks;
            test();
            if (checks == before) {
                wrong++;
                System.out.println("promise " + promise + " has no test");
            }
        }
        System.out.println(checks + " checks, " + wrong + " wrong");
        if (wrong != 0) {
            System.exit(1);
        }
    }

    private static void test() {
        switch (promise) {
            case 1: promise1NewObject(); break;
            case 2: promise2Pass(); break;
            case 3: promise3Birth(); break;
            case 4: promise4Move(); break;
            case 5: promise5Naming(); break;
            case 6: promise6Bond(); promise6Parting(); promise6Adoption(); promise6Wrong(); break;
            case 7: promise7Death(); break;
            case 8: promise8Join(); promise8JoinWrong(); break;
            case 9: promise9Strike(); break;
            case 10: promise10Day(); break;
            case 11: promise11ActOf(); break;
            case 12: promise12AsOf(); promise12Order(); promise12AsOfWrong(); break;
            case 13: promise13Now(); break;
            case 14: promise14Households(); promise14Edges(); break;
            case 15: promise15Money(); break;
            case 16: promise16Changed(); break;
            case 17: promise17Origin(); promise17OriginEdges(); break;
            case 18: promise18Likeness(); break;
            case 19: promise19DoubleOf(); break;
            case 20: promise20Renumber(); break;
            case 21: promise21Number(); break;
            case 22: promise22Bearer(); break;
            case 23: promise23Roll(); break;
            case 24: promise24Deliver(); promise24Kinds(); break;
            case 25: promise25Owes(); break;
            case 26: promise26Message(); promise26ManyMessages(); break;
            case 27: promise27Holds(); break;
            case 28: promise28HoldsAnew(); break;
            case 29: promise29Bar(); break;
            case 30: promise30Look(); break;
            case 31: promise31Looks(); break;
            default: break;
        }
    }

    private static void promise1NewObject() {
        Residentroll x = new Residentroll();
        due(10000, x.day());
        refused(INDEX, () -> x.actOf(0, 0));
        refused(INDEX, () -> x.now(0, 0));
        refused(INDEX, () -> x.owes(0));
        due(NONE, x.bearer(10017));
        due(0, x.households(0, 10000, 10000));
        due(0, x.changed(10000, 0, 10000));
    }

    private static void promise2Pass() {
        Residentroll x = new Residentroll();
        due(10001, x.pass(1));
        due(15001, x.pass(5000));
        refused(ARGUMENT, () -> x.pass(0));
        refused(ARGUMENT, () -> x.pass(-1));
        refused(ARGUMENT, () -> x.pass(5001));
        refused(ARGUMENT, () -> x.pass(Integer.MAX_VALUE));
        refused(ARGUMENT, () -> x.pass(Integer.MIN_VALUE));
        due(20001, x.pass(5000));
        due(25001, x.pass(5000));
        refused(STATE, () -> x.pass(5000));
        due(25001, x.day());
        due(30000, x.pass(4999));
        refused(STATE, () -> x.pass(1));
        refused(ARGUMENT, () -> x.pass(5001));
        due(30000, x.day());
    }

    private static void promise3Birth() {
        Residentroll x = new Residentroll();
        due(0, x.birth(0, NONE, 0, 0));
        due(1, x.birth(10000, 0, 15, 999));
        due(0, x.now(1, 4));
        due(15, x.now(1, 1));
        due(999, x.now(1, 2));
        due(NONE, x.now(1, 3));
        due(Residentroll.LIVING, x.now(1, 0));
        refused(INDEX, () -> x.birth(0, 2, 0, 0));
        refused(INDEX, () -> x.birth(0, -2, 0, 0));
        refused(INDEX, () -> x.birth(-1, NONE, 16, -1));
        refused(INDEX, () -> x.birth(0, NONE, -1, 0));
        refused(ARGUMENT, () -> x.birth(10001, NONE, 0, 0));
        refused(ARGUMENT, () -> x.birth(-1, NONE, 0, 0));
        refused(ARGUMENT, () -> x.birth(0, NONE, 0, 1000));
        refused(ARGUMENT, () -> x.birth(0, NONE, 0, -1));
        refused(INDEX, () -> x.actOf(2, 0));
        due(2, x.birth(500, 1, 0, 0));
        due(NONE, x.now(2, 4));
        for (int i = 3; i < 24; i++) {
            due(i, x.birth(0, NONE, 0, 0));
        }
        refused(STATE, () -> x.birth(0, NONE, 0, 0));
        refused(ARGUMENT, () -> x.birth(0, NONE, 0, 1000));
        refused(INDEX, () -> x.birth(0, 24, 0, 0));
        promise3BirthFull();
    }

    private static void promise3BirthFull() {
        Residentroll acts = grown(1);
        fillActs(acts, 1);
        refused(STATE, () -> acts.birth(0, NONE, 0, 0));
        refused(INDEX, () -> acts.now(1, 0));
        due(NONE, acts.bearer(10021));
        Residentroll numbers = grown(1);
        for (int i = 1; i < 60; i++) {
            numbers.renumber(0);
        }
        refused(STATE, () -> numbers.birth(0, NONE, 0, 0));
        refused(INDEX, () -> numbers.now(1, 0));
        due(1, numbers.move(0, 0, 1));
    }

    private static void promise4Move() {
        Residentroll x = grown(2);
        due(2, x.move(0, 5000, 9));
        due(9, x.now(0, 1));
        due(3, x.move(0, 4000, 8));
        due(9, x.now(0, 1));
        due(8, x.asOf(0, 1, 4999, TODAY));
        due(0, x.asOf(0, 1, 3999, TODAY));
        due(4, x.move(1, 99, 3));
        due(1, x.now(1, 1));
        due(5, x.move(1, 100, 4));
        due(4, x.now(1, 1));
        refused(INDEX, () -> x.move(2, 0, 0));
        refused(INDEX, () -> x.move(-1, 0, 0));
        refused(INDEX, () -> x.move(0, -1, 16));
        refused(ARGUMENT, () -> x.move(0, -1, 0));
        refused(ARGUMENT, () -> x.move(0, 10001, 0));
        fillActs(x, 6);
        refused(STATE, () -> x.move(0, 0, 0));
        refused(ARGUMENT, () -> x.move(0, -1, 0));
    }

    private static void promise5Naming() {
        Residentroll x = grown(2);
        due(2, x.naming(1, 5000, 999));
        due(999, x.now(1, 2));
        due(1, x.asOf(1, 2, 4999, TODAY));
        due(3, x.naming(1, 99, 5));
        due(999, x.now(1, 2));
        refused(INDEX, () -> x.naming(2, -1, 0));
        refused(ARGUMENT, () -> x.naming(0, 0, 1000));
        refused(ARGUMENT, () -> x.naming(0, 0, -1));
        refused(ARGUMENT, () -> x.naming(0, 10001, 0));
        refused(ARGUMENT, () -> x.naming(0, -1, 0));
        fillActs(x, 4);
        refused(STATE, () -> x.naming(0, 0, 0));
    }

    private static void promise6Bond() {
        Residentroll x = grown(4);
        due(4, x.tie(Residentroll.BOND, 1, 0, 9000));
        due(0, x.now(1, 3));
        due(1, x.now(0, 3));
        due(5, x.tie(Residentroll.BOND, 1, 2, 9001));
        due(0, x.now(1, 3));
        due(NONE, x.now(2, 3));
        due(6, x.tie(Residentroll.BOND, 2, 3, 299));
        due(NONE, x.now(2, 3));
        due(7, x.tie(Residentroll.BOND, 1, 2, 8999));
        due(2, x.now(1, 3));
        due(NONE, x.now(0, 3));
    }

    private static void promise6Parting() {
        Residentroll x = grown(4);
        x.tie(Residentroll.BOND, 0, 1, 9000);
        x.tie(Residentroll.BOND, 2, 3, 9000);
        due(6, x.tie(Residentroll.PARTING, 0, 2, 9100));
        due(1, x.now(0, 3));
        due(3, x.now(2, 3));
        due(7, x.tie(Residentroll.PARTING, 1, 0, 9100));
        due(NONE, x.now(0, 3));
        due(NONE, x.now(1, 3));
        due(1, x.asOf(0, 3, 9099, TODAY));
        due(8, x.tie(Residentroll.BOND, 1, 0, 9100));
        due(1, x.now(0, 3));
    }

    private static void promise6Adoption() {
        Residentroll x = grown(3);
        due(3, x.tie(Residentroll.ADOPTION, 2, 1, 9000));
        due(1, x.now(2, 4));
        due(NONE, x.asOf(2, 4, 8999, TODAY));
        due(4, x.tie(Residentroll.ADOPTION, 1, 2, 9000));
        due(2, x.now(1, 4));
        due(5, x.tie(Residentroll.ADOPTION, 2, 0, 9001));
        due(0, x.now(2, 4));
        x.death(1, 5000);
        due(NONE, x.asOf(2, 4, 9000, TODAY));
        due(NONE, x.now(1, 4));
        due(0, x.now(2, 4));
        x.join(0, 2);
        due(NONE, x.now(0, 4));
    }

    private static void promise6Wrong() {
        Residentroll x = grown(2);
        refused(INDEX, () -> x.tie(99, 2, 0, -1));
        refused(INDEX, () -> x.tie(Residentroll.BOND, 0, 2, 0));
        refused(INDEX, () -> x.tie(Residentroll.BOND, 5, 5, 0));
        refused(INDEX, () -> x.tie(Residentroll.BOND, 0, NONE, 0));
        for (int kind : new int[] {-1, 0, 1, 2, 5, 7, 8, 9}) {
            refused(ARGUMENT, () -> x.tie(kind, 0, 1, 0));
        }
        refused(ARGUMENT, () -> x.tie(Residentroll.BOND, 0, 1, 10001));
        refused(ARGUMENT, () -> x.tie(Residentroll.BOND, 0, 1, -1));
        refused(ARGUMENT, () -> x.tie(Residentroll.PARTING, 1, 1, 0));
        fillActs(x, 2);
        refused(STATE, () -> x.tie(Residentroll.BOND, 0, 1, 0));
        refused(ARGUMENT, () -> x.tie(Residentroll.BOND, 0, 0, 0));
    }

    private static void promise7Death() {
        Residentroll x = grown(3);
        x.tie(Residentroll.ADOPTION, 1, 2, 500);
        x.tie(Residentroll.BOND, 0, 1, 600);
        due(5, x.death(1, 9000));
        due(Residentroll.DEAD, x.now(1, 0));
        due(NONE, x.now(1, 1));
        due(1, x.now(1, 2));
        due(NONE, x.now(1, 3));
        due(2, x.now(1, 4));
        due(NONE, x.now(1, 5));
        due(NONE, x.now(1, 6));
        due(NONE, x.now(0, 3));
        due(Residentroll.LIVING, x.asOf(1, 0, 8999, TODAY));
        x.move(1, 9000, 4);
        x.naming(1, 9001, 77);
        due(NONE, x.now(1, 1));
        due(1, x.now(1, 2));
        due(8, x.death(2, 199));
        due(Residentroll.LIVING, x.now(2, 0));
        refused(INDEX, () -> x.death(3, -1));
        refused(ARGUMENT, () -> x.death(0, 10001));
        refused(ARGUMENT, () -> x.death(0, -1));
        fillActs(x, 9);
        refused(STATE, () -> x.death(0, 0));
    }

    private static void promise8Join() {
        Residentroll x = grown(5);
        x.move(4, 5000, 12);
        x.move(3, 6000, 13);
        due(7, x.join(3, 4));
        due(Residentroll.DOUBLE, x.now(4, 0));
        due(Residentroll.DOUBLE, x.asOf(4, 0, 0, TODAY));
        due(13, x.now(3, 1));
        due(12, x.asOf(3, 1, 5999, TODAY));
        for (int what = 1; what <= 6; what++) {
            due(NONE, x.now(4, what));
        }
        due(8, x.join(1, 3));
        due(13, x.now(1, 1));
        x.tie(Residentroll.BOND, 0, 4, 7000);
        due(1, x.now(0, 3));
        due(10, x.join(2, 4));
        due(2, x.now(0, 3));
        due(12, x.asOf(2, 1, 6500, TODAY));
        x.strike(10);
        due(1, x.now(0, 3));
        x.pass(10);
        x.strike(8);
        due(3, x.now(0, 3));
        due(1, x.asOf(0, 3, TODAY, TODAY));
        due(Residentroll.DOUBLE, x.asOf(3, 0, 10010, TODAY));
    }

    private static void promise8JoinWrong() {
        Residentroll x = grown(3);
        x.join(0, 1);
        x.tie(Residentroll.BOND, 0, 1, 9000);
        due(NONE, x.now(0, 3));
        x.birth(9000, 1, 0, 0);
        due(0, x.now(3, 4));
        due(0, x.asOf(0, 5, 364, TODAY));
        refused(INDEX, () -> x.join(0, 4));
        refused(INDEX, () -> x.join(4, 0));
        refused(INDEX, () -> x.join(-1, 0));
        refused(ARGUMENT, () -> x.join(1, 0));
        refused(ARGUMENT, () -> x.join(1, 1));
        fillActs(x, 6);
        refused(STATE, () -> x.join(1, 2));
        refused(ARGUMENT, () -> x.join(2, 1));
    }

    private static void promise9Strike() {
        Residentroll x = grown(2);
        x.move(0, 9000, 5);
        x.pass(5);
        due(3, x.strike(2));
        due(0, x.now(0, 1));
        due(5, x.asOf(0, 1, TODAY, TODAY));
        due(5, x.asOf(0, 1, TODAY, 10004));
        due(0, x.asOf(0, 1, TODAY, 10005));
        refused(STATE, () -> x.strike(2));
        refused(STATE, () -> x.strike(3));
        refused(INDEX, () -> x.strike(4));
        refused(INDEX, () -> x.strike(-1));
        due(4, x.strike(1));
        due(Residentroll.UNBORN, x.now(1, 0));
        due(NONE, x.now(1, 2));
        due(10021, x.number(1));
        for (int i = 5; i < 150; i++) {
            x.move(0, 0, 0);
        }
        refused(STATE, () -> x.strike(0));
        refused(INDEX, () -> x.strike(150));
        due(NONE, x.actOf(0, 4));
    }

    private static void promise10Day() {
        Residentroll x = new Residentroll();
        due(10000, x.day());
        x.pass(77);
        due(10077, x.day());
    }

    private static void promise11ActOf() {
        Residentroll x = grown(3);
        x.pass(3);
        x.tie(Residentroll.ADOPTION, 2, 1, 9000);
        x.join(1, 2);
        x.pass(4);
        x.strike(4);
        int[][] rows = {
            {Residentroll.BIRTH, 10000, 0, 0, NONE},
            {Residentroll.BIRTH, 10000, 100, 1, NONE},
            {Residentroll.BIRTH, 10000, 200, 2, NONE},
            {Residentroll.ADOPTION, 10003, 9000, 2, NONE},
            {Residentroll.JOINING, 10003, NONE, 1, 5},
            {Residentroll.STRIKING, 10007, NONE, NONE, NONE},
        };
        for (int act = 0; act < rows.length; act++) {
            for (int what = 0; what < 5; what++) {
                due(rows[act][what], x.actOf(act, what));
            }
        }
        x.move(0, 1, 1);
        x.naming(0, 2, 1);
        x.tie(Residentroll.PARTING, 1, 0, 3);
        x.death(0, 4);
        x.tie(Residentroll.BOND, 1, 0, 3);
        due(Residentroll.MOVE, x.actOf(6, 0));
        due(Residentroll.NAMING, x.actOf(7, 0));
        due(Residentroll.PARTING, x.actOf(8, 0));
        due(1, x.actOf(8, 3));
        due(Residentroll.DEATH, x.actOf(9, 0));
        due(Residentroll.BOND, x.actOf(10, 0));
        refused(INDEX, () -> x.actOf(11, 9));
        refused(INDEX, () -> x.actOf(-1, 0));
        refused(ARGUMENT, () -> x.actOf(0, 5));
        refused(ARGUMENT, () -> x.actOf(0, -1));
    }

    private static void promise12AsOf() {
        Residentroll x = new Residentroll();
        x.pass(10);
        x.birth(1000, NONE, 3, 4);
        due(Residentroll.UNBORN, x.asOf(0, 0, 1000, 10009));
        due(Residentroll.UNBORN, x.asOf(0, 0, 999, 10010));
        due(Residentroll.LIVING, x.asOf(0, 0, 1000, 10010));
        for (int what = 1; what <= 6; what++) {
            due(NONE, x.asOf(0, what, 999, 10010));
        }
        due(0, x.asOf(0, 5, 1364, 10010));
        due(1, x.asOf(0, 5, 1365, 10010));
        due(24, x.asOf(0, 5, 10010, 10010));
        due(3, x.asOf(0, 1, 1000, 10010));
        due(4, x.asOf(0, 2, 1000, 10010));
        due(NONE, x.asOf(0, 3, 1000, 10010));
        due(NONE, x.asOf(0, 4, 1000, 10010));
        due(0, x.asOf(0, 6, 1000, 10010));
        // an ACT told on a later day of what was so before
        x.pass(10);
        x.naming(0, 1000, 5);
        due(4, x.asOf(0, 2, 1000, 10019));
        due(5, x.asOf(0, 2, 1000, 10020));
        due(5, x.asOf(0, 2, 1000, 10020));
    }

    private static void promise12Order() {
        Residentroll x = new Residentroll();
        x.birth(5000, NONE, 1, 1);
        x.move(0, 6000, 2);
        x.move(0, 6000, 3);
        due(3, x.now(0, 1));
        x.birth(5000, NONE, 4, 4);
        x.birth(4000, NONE, 5, 5);
        x.join(0, 1);
        due(1, x.asOf(0, 1, 5000, TODAY));
        x.join(0, 2);
        due(5, x.asOf(0, 1, 5999, TODAY));
        due(5, x.now(0, 2));
        due(16, x.now(0, 5));
        // a BIRTH after the DEATH does not bring back
        x.death(0, 4500);
        due(Residentroll.DEAD, x.now(0, 0));
        due(5, x.now(0, 2));
        // a mother who dies or is born on the very day: the numbers of the ACTS decide
        x.birth(7000, NONE, 0, 0);
        x.death(3, 8000);
        x.birth(8000, 3, 0, 0);
        due(NONE, x.now(4, 4));
        x.birth(7999, 3, 0, 0);
        due(3, x.now(5, 4));
        x.birth(7000, 3, 0, 0);
        due(3, x.now(6, 4));
        x.birth(6999, 3, 0, 0);
        due(NONE, x.now(7, 4));
    }

    private static void promise12AsOfWrong() {
        Residentroll x = grown(1);
        refused(INDEX, () -> x.asOf(1, 9, -1, -1));
        refused(INDEX, () -> x.asOf(-1, 0, 0, 0));
        refused(ARGUMENT, () -> x.asOf(0, 7, 0, 0));
        refused(ARGUMENT, () -> x.asOf(0, -1, 0, 0));
        refused(ARGUMENT, () -> x.asOf(0, 0, 10001, 0));
        refused(ARGUMENT, () -> x.asOf(0, 0, -1, 0));
        refused(ARGUMENT, () -> x.asOf(0, 0, 0, 10001));
        refused(ARGUMENT, () -> x.asOf(0, 0, 0, -1));
        due(Residentroll.UNBORN, x.asOf(0, 0, TODAY, 9999));
    }

    private static void promise13Now() {
        Residentroll x = grown(3);
        x.birth(10000 - 18 * 365, 0, 0, 7);
        due(18, x.now(3, 5));
        x.birth(10001 - 18 * 365, 0, 0, 7);
        due(17, x.now(4, 5));
        due(0, x.now(4, 6));
        due(3, x.now(3, 6));
        x.pass(1);
        due(18, x.now(4, 5));
        due(4, x.now(4, 6));
        x.tie(Residentroll.BOND, 0, 1, 9000);
        x.move(1, 9500, 0);
        x.death(2, 9700);
        x.join(1, 3);
        x.strike(7);
        x.move(0, 9400, 1);
        for (int person = 0; person < 5; person++) {
            for (int what = 0; what <= 6; what++) {
                due(x.asOf(person, what, 10001, 10001), x.now(person, what));
            }
        }
        refused(INDEX, () -> x.now(5, 9));
        refused(INDEX, () -> x.now(-1, 0));
        refused(ARGUMENT, () -> x.now(0, 7));
        refused(ARGUMENT, () -> x.now(0, -1));
    }

    private static void promise14Households() {
        Residentroll x = new Residentroll();
        for (int i = 0; i < 4; i++) {
            x.birth(0, NONE, 6, i);
        }
        due(4, x.households(6, TODAY, TODAY));
        due(0, x.households(5, TODAY, TODAY));
        x.tie(Residentroll.BOND, 2, 3, 8000);
        due(3, x.households(6, TODAY, TODAY));
        due(4, x.households(6, 7999, TODAY));
        // a child of 1 and a child's own child join a row of PERSONS
        x.birth(9000, 3, 6, 9);
        due(2, x.now(4, 6));
        x.tie(Residentroll.ADOPTION, 4, 1, 9500);
        due(1, x.now(4, 6));
        due(2, x.now(3, 6));
        x.birth(9900, 4, 6, 9);
        due(1, x.now(5, 6));
        due(3, x.households(6, TODAY, TODAY));
        x.move(4, 9950, 7);
        due(5, x.now(5, 6));
        due(1, x.households(7, TODAY, TODAY));
        due(4, x.households(6, TODAY, TODAY));
        due(0, x.households(6, TODAY, 9999));
        refused(INDEX, () -> x.households(16, -1, 0));
        refused(INDEX, () -> x.households(-1, 0, 0));
        refused(ARGUMENT, () -> x.households(0, 10001, 0));
        refused(ARGUMENT, () -> x.households(0, -1, 0));
        refused(ARGUMENT, () -> x.households(0, 0, 10001));
        refused(ARGUMENT, () -> x.households(0, 0, -1));
    }

    private static void promise14Edges() {
        Residentroll x = new Residentroll();
        x.birth(0, NONE, 6, 0);
        x.birth(10001 - 18 * 365, 0, 6, 1);
        x.birth(10000 - 18 * 365, 0, 6, 2);
        due(2, x.households(6, TODAY, TODAY));
        due(0, x.now(1, 6));
        due(2, x.now(2, 6));
        // a partner elsewhere parts the child from its mother
        x.birth(0, NONE, 9, 3);
        x.tie(Residentroll.BOND, 1, 3, 9999);
        due(1, x.now(1, 6));
        due(3, x.households(6, TODAY, TODAY));
        due(1, x.households(6, 9998, TODAY));
        due(1, x.households(9, 9998, TODAY));
        // the lowest PERSON can be the child
        Residentroll young = new Residentroll();
        young.birth(9990, NONE, 6, 0);
        young.birth(0, NONE, 6, 0);
        young.tie(Residentroll.ADOPTION, 0, 1, 9995);
        due(1, young.households(6, TODAY, TODAY));
        due(0, young.now(1, 6));
        // the mother's own age and partner do not matter
        x.tie(Residentroll.PARTING, 3, 1, 9999);
        x.tie(Residentroll.BOND, 0, 3, 9999);
        due(0, x.now(1, 6));
        x.death(0, 10000);
        due(1, x.now(1, 6));
        due(NONE, x.now(0, 6));
    }

    private static void promise15Money() {
        Residentroll x = new Residentroll();
        x.birth(9990, NONE, 3, 0);
        x.birth(0, NONE, 4, 0);
        due(11, x.money(0, 9990, 11, TODAY));
        due(11, x.money(0, 9941, 60, TODAY));
        due(1, x.money(0, 10000, 1, TODAY));
        due(0, x.money(0, 9989, 1, TODAY));
        due(60, x.money(1, 9000, 60, TODAY));
        due(0, x.money(2, 9000, 60, TODAY));
        due(0, x.money(1, 9000, 60, 9999));
        x.pass(1);
        x.move(1, 9030, 15);
        x.death(0, 9995);
        due(30, x.money(1, 9000, 60, 10001));
        due(30, x.money(3, 9000, 60, 10001));
        due(60, x.money(1, 9000, 60, 10000));
        due(5, x.money(0, 9990, 12, 10001));
        refused(INDEX, () -> x.money(4, -1, 0, -1));
        refused(INDEX, () -> x.money(-1, 0, 1, 0));
        refused(ARGUMENT, () -> x.money(0, -1, 1, 0));
        refused(ARGUMENT, () -> x.money(0, -1, 2, 0));
        refused(ARGUMENT, () -> x.money(0, 10002, 1, 0));
        refused(ARGUMENT, () -> x.money(0, 0, 0, 0));
        refused(ARGUMENT, () -> x.money(0, 0, 61, 0));
        refused(ARGUMENT, () -> x.money(0, 9943, 60, 0));
        refused(ARGUMENT, () -> x.money(0, Integer.MAX_VALUE, 60, 0));
        refused(ARGUMENT, () -> x.money(0, 9000, Integer.MAX_VALUE, 0));
        refused(ARGUMENT, () -> x.money(0, 0, 1, 10002));
        refused(ARGUMENT, () -> x.money(0, 0, 1, -1));
        due(0, x.money(0, 9942, 60, 0));
    }

    private static void promise16Changed() {
        Residentroll x = grown(4);
        x.pass(10);
        x.move(0, 9000, 9);
        x.naming(1, 9000, 9);
        due(2, x.changed(9000, 10000, 10010));
        due(2, x.changed(9000, 10010, 10000));
        due(0, x.changed(8999, 10000, 10010));
        due(0, x.changed(9000, 10010, 10010));
        due(4, x.changed(9000, 9999, 10000));
        x.pass(10);
        x.tie(Residentroll.BOND, 1, 2, 9500);
        due(2, x.changed(9500, 10010, 10020));
        due(3, x.changed(9500, 10000, 10020));
        x.pass(10);
        x.tie(Residentroll.ADOPTION, 3, 0, 9500);
        due(1, x.changed(9500, 10020, 10030));
        x.pass(10);
        x.death(3, 9600);
        due(1, x.changed(9600, 10030, 10040));
        x.pass(10);
        x.join(2, 3);
        // the double's DEATH is that of PERSON 2, the partner of PERSON 1
        due(3, x.changed(9600, 10040, 10050));
        due(1, x.changed(50, 10040, 10050));
        refused(ARGUMENT, () -> x.changed(-1, 0, 0));
        refused(ARGUMENT, () -> x.changed(0, -1, 0));
        refused(ARGUMENT, () -> x.changed(0, 0, -1));
        refused(ARGUMENT, () -> x.changed(10051, 0, 0));
        refused(ARGUMENT, () -> x.changed(0, 10051, 0));
        refused(ARGUMENT, () -> x.changed(0, 0, 10051));
    }

    private static void promise17Origin() {
        Residentroll x = grown(3);
        x.birth(9000, 0, 0, 0);
        due(0, x.origin(3, NONE));
        due(0, x.origin(3, 2));
        due(NONE, x.origin(0, NONE));
        x.tie(Residentroll.ADOPTION, 3, 1, 9100);
        due(HIDDEN, x.origin(3, NONE));
        due(HIDDEN, x.origin(3, 0));
        due(HIDDEN, x.origin(3, 2));
        due(0, x.origin(3, 1));
        due(0, x.origin(3, 3));
        x.tie(Residentroll.ADOPTION, 3, 2, 9200);
        due(HIDDEN, x.origin(3, 1));
        due(0, x.origin(3, 2));
        // it stays adopted with its first mother as mother once more
        x.tie(Residentroll.ADOPTION, 3, 0, 9300);
        due(HIDDEN, x.origin(3, NONE));
        due(0, x.origin(3, 0));
        x.death(3, 9400);
        due(HIDDEN, x.origin(3, NONE));
        due(0, x.origin(3, 3));
        refused(INDEX, () -> x.origin(4, NONE));
        refused(INDEX, () -> x.origin(0, 4));
        refused(INDEX, () -> x.origin(0, -2));
        refused(INDEX, () -> x.origin(NONE, NONE));
    }

    private static void promise17OriginEdges() {
        Residentroll x = grown(4);
        x.tie(Residentroll.ADOPTION, 1, 0, 9000);
        due(HIDDEN, x.origin(1, NONE));
        due(NONE, x.origin(1, 0));
        due(NONE, x.origin(1, 1));
        // a double asks as the PERSON of whom it is one
        x.join(0, 3);
        due(NONE, x.origin(1, 3));
        due(HIDDEN, x.origin(1, 2));
        due(NONE, x.origin(3, NONE));
        x.join(1, 2);
        due(NONE, x.origin(1, 2));
        due(NONE, x.origin(2, NONE));
        x.strike(1);
        x.strike(2);
        due(Residentroll.UNBORN, x.now(1, 0));
        due(NONE, x.origin(1, NONE));
        // what is struck is not adopted, and has no mother by a BIRTH that does not count
        Residentroll first = grown(3);
        first.tie(Residentroll.ADOPTION, 0, 1, 9000);
        due(HIDDEN, first.origin(0, 2));
        first.strike(3);
        due(NONE, first.origin(0, 2));
        first.birth(9000, 1, 0, 0);
        due(1, first.origin(3, 2));
        first.strike(5);
        due(NONE, first.origin(3, 2));
        Residentroll dead = grown(1);
        dead.birth(9000, 0, 0, 0);
        dead.death(1, 9001);
        dead.death(0, 9001);
        due(0, dead.origin(1, NONE));
    }

    private static void promise18Likeness() {
        Residentroll x = new Residentroll();
        x.birth(1000, NONE, 0, 1);
        x.birth(1000, NONE, 1, 2);
        x.birth(1031, NONE, 1, 1);
        x.birth(1032, NONE, 0, 3);
        due(5, x.likeness(0, 1));
        due(5, x.likeness(0, 2));
        due(5, x.likeness(2, 0));
        due(2, x.likeness(0, 3));
        due(4, x.likeness(1, 2));
        due(2, x.likeness(2, 3));
        due(0, x.likeness(1, 3));
        x.naming(1, 9000, 1);
        x.move(1, 9000, 0);
        due(10, x.likeness(0, 1));
        x.death(1, 9500);
        due(8, x.likeness(0, 1));
        x.death(0, 9500);
        due(8, x.likeness(0, 1));
        x.join(0, 1);
        due(0, x.likeness(0, 1));
        x.strike(2);
        due(0, x.likeness(2, 3));
        // who is UNBORN has no day to be near to
        Residentroll early = grown(1);
        early.birth(0, NONE, 0, 0);
        early.strike(1);
        due(0, early.likeness(0, 1));
        due(0, early.likeness(1, 0));
        due(NONE, early.doubleOf(1));
        refused(INDEX, () -> x.likeness(0, 4));
        refused(INDEX, () -> x.likeness(4, 4));
        refused(INDEX, () -> x.likeness(-1, 0));
        refused(ARGUMENT, () -> x.likeness(2, 2));
    }

    private static void promise19DoubleOf() {
        Residentroll x = new Residentroll();
        x.birth(1000, NONE, 0, 1);
        x.birth(1000, NONE, 0, 2);
        x.birth(1000, NONE, 3, 1);
        x.birth(1000, NONE, 0, 1);
        due(2, x.doubleOf(0));
        due(NONE, x.doubleOf(1));
        due(0, x.doubleOf(2));
        due(0, x.doubleOf(3));
        x.join(0, 2);
        due(3, x.doubleOf(0));
        due(NONE, x.doubleOf(2));
        refused(INDEX, () -> x.doubleOf(4));
        refused(INDEX, () -> x.doubleOf(-1));
    }

    private static void promise20Renumber() {
        Residentroll x = grown(2);
        due(10036, x.renumber(0));
        due(10036, x.number(0));
        due(0, x.bearer(10017));
        due(0, x.bearer(10036));
        due(10021, x.number(1));
        refused(INDEX, () -> x.renumber(2));
        refused(INDEX, () -> x.renumber(-1));
        int given = 3;
        int last = 1003;
        while (given < 60) {
            last = nextSerial(last);
            due(10 * last + check(last), x.renumber(1));
            given++;
        }
        refused(STATE, () -> x.renumber(1));
        refused(INDEX, () -> x.renumber(2));
        due(10 * last + check(last), x.number(1));
        due(true, last > 1061);
    }

    private static int nextSerial(int serial) {
        int next = serial + 1;
        while (check(next) == 10) {
            next++;
        }
        return next;
    }

    private static int check(int serial) {
        return (2 * (serial / 1000) + 3 * (serial / 100 % 10) + 4 * (serial / 10 % 10) + 5 * (serial % 10)) % 11;
    }

    private static void promise21Number() {
        Residentroll x = grown(6);
        int[] due = {10017, 10021, 10036, 10040, 10055};
        for (int person = 0; person < 5; person++) {
            due(due[person], x.number(person));
        }
        // 1006 has none: 2 + 30, less twice 11, is 10
        due(10074, x.number(5));
        x.strike(3);
        x.join(0, 1);
        due(10040, x.number(3));
        due(10021, x.number(1));
        refused(INDEX, () -> x.number(6));
        refused(INDEX, () -> x.number(-1));
    }

    private static void promise22Bearer() {
        Residentroll x = grown(2);
        due(0, x.bearer(10017));
        due(1, x.bearer(10021));
        due(NONE, x.bearer(10036));
        x.join(0, 1);
        due(1, x.bearer(10021));
        int valid = 0;
        for (int number = 10000; number <= 99999; number++) {
            int asks = number;
            if (number / 10 >= 1001 && check(number / 10) == number % 10) {
                valid++;
            } else if (number % 97 == 0 || number < 10100) {
                refused(ARGUMENT, () -> grown(2).bearer(asks));
            }
        }
        due(true, valid > 8000);
        due(NONE, x.bearer(99990 + check(9999)));
        refused(ARGUMENT, () -> x.bearer(9999));
        refused(ARGUMENT, () -> x.bearer(100000));
        refused(ARGUMENT, () -> x.bearer(-10017));
        refused(ARGUMENT, () -> x.bearer(Integer.MAX_VALUE));
        refused(ARGUMENT, () -> x.bearer(10000 + check(1000)));
    }

    private static void promise23Roll() {
        Residentroll x = grown(1);
        refused(INDEX, () -> x.roll(9, 4));
        refused(INDEX, () -> x.roll(Residentroll.ALL, -1));
        refused(ARGUMENT, () -> x.roll(4, 0));
        refused(ARGUMENT, () -> x.roll(-1, 0));
        due(0, x.roll(Residentroll.ALL, 3));
        due(1, x.roll(Residentroll.VOTES, 0));
        due(2, x.roll(Residentroll.SCHOOL, 0));
        due(3, x.roll(Residentroll.TOWN, 0));
        due(NONE, x.holds(3, 0));
        refused(INDEX, () -> x.message(3, 0));
        due(4, x.roll(Residentroll.TOWN, 3));
        refused(STATE, () -> x.roll(Residentroll.ALL, 0));
        refused(ARGUMENT, () -> x.roll(4, 0));
        refused(INDEX, () -> x.owes(5));
    }

    private static void promise24Deliver() {
        Residentroll x = grown(3);
        x.roll(Residentroll.ALL, 0);
        due(3, x.deliver(0));
        due(0, x.deliver(0));
        x.move(0, TODAY, 7);
        x.death(1, TODAY);
        x.birth(TODAY, 0, 7, 5);
        due(3, x.deliver(0));
        due(73, x.message(0, 3));
        due(1002, x.message(0, 4));
        due(3071, x.message(0, 5));
        // there and back between two deliveries tells nothing
        x.move(0, TODAY, 8);
        x.move(0, TODAY, 7);
        due(0, x.deliver(0));
        x.join(0, 2);
        due(1, x.deliver(0));
        due(2002, x.message(0, 6));
        refused(INDEX, () -> x.deliver(1));
        refused(INDEX, () -> x.deliver(-1));
    }

    private static void promise24Kinds() {
        int[] ages = {5, 6, 15, 16, 17, 18};
        Residentroll x = new Residentroll();
        for (int i = 0; i < ages.length; i++) {
            x.birth(TODAY - 365 * ages[i], NONE, 3 + i, 0);
        }
        for (int i = 0; i < 4; i++) {
            x.roll(i, 1);
        }
        due(6, x.deliver(0));
        due(1, x.deliver(1));
        due(5081, x.message(1, 0));
        due(2, x.deliver(2));
        due(1041, x.message(2, 0));
        due(2051, x.message(2, 1));
        due(4, x.deliver(3));
        due(1041, x.message(3, 0));
        due(4071, x.message(3, 3));
        x.pass(364);
        due(0, x.deliver(1) + x.deliver(2));
        x.pass(1);
        due(1, x.deliver(1));
        due(4071, x.message(1, 1));
        due(2, x.deliver(2));
        due(31, x.message(2, 2));
        due(2002, x.message(2, 3));
        x.move(1, 10365, 8);
        due(1, x.deliver(3));
        due(1002, x.message(3, 4));
    }

    private static void promise25Owes() {
        Residentroll x = grown(2);
        x.roll(Residentroll.ALL, 0);
        due(2, x.owes(0));
        due(2, x.owes(0));
        due(NONE, x.holds(0, 0));
        due(2, x.deliver(0));
        due(0, x.owes(0));
        x.move(0, TODAY, 9);
        due(1, x.owes(0));
        x.strike(2);
        due(0, x.owes(0));
        x.strike(0);
        due(1, x.owes(0));
        refused(INDEX, () -> x.owes(1));
        refused(INDEX, () -> x.owes(-1));
    }

    private static void promise26Message() {
        Residentroll x = grown(24);
        x.roll(Residentroll.ALL, 0);
        x.roll(Residentroll.TOWN, 3);
        refused(INDEX, () -> x.message(0, 0));
        x.deliver(0);
        due(1, x.message(0, 0));
        due(15151, x.message(0, 15));
        due(23071, x.message(0, 23));
        refused(INDEX, () -> x.message(0, 24));
        refused(INDEX, () -> x.message(0, -1));
        refused(INDEX, () -> x.message(1, 0));
        refused(INDEX, () -> x.message(2, 0));
        refused(INDEX, () -> x.message(-1, 0));
    }

    private static void promise26ManyMessages() {
        Residentroll x = new Residentroll();
        x.birth(0, NONE, 0, 0);
        for (int i = 1; i < 24; i++) {
            x.birth(0, NONE, i % 16, 0);
        }
        x.roll(Residentroll.ALL, 0);
        int got = x.deliver(0);
        for (int i = 1; i < 24; i++) {
            x.join(0, i);
            got += x.deliver(0);
            x.strike(23 + 2 * i - 1);
            got += x.deliver(0);
        }
        due(24 + 2 * 23, got);
        due(23002, x.message(0, got - 2));
        due(23071, x.message(0, got - 1));
        int all = got;
        refused(INDEX, () -> x.message(0, all));
        for (int person = 0; person < 24; person++) {
            due(x.now(person, 1), x.holds(0, person));
            due(x.now(person, 1), x.holdsAnew(0, person));
        }
    }

    private static void promise27Holds() {
        Residentroll x = grown(3);
        x.roll(Residentroll.ALL, 0);
        due(NONE, x.holds(0, 1));
        x.deliver(0);
        due(1, x.holds(0, 1));
        x.move(1, TODAY, 9);
        due(1, x.holds(0, 1));
        x.deliver(0);
        due(9, x.holds(0, 1));
        x.death(1, TODAY);
        x.deliver(0);
        due(NONE, x.holds(0, 1));
        refused(INDEX, () -> x.holds(1, 0));
        refused(INDEX, () -> x.holds(-1, 0));
        refused(INDEX, () -> x.holds(0, 3));
        refused(INDEX, () -> x.holds(0, -1));
    }

    private static void promise28HoldsAnew() {
        Residentroll x = grown(3);
        x.roll(Residentroll.ALL, 0);
        due(NONE, x.holdsAnew(0, 1));
        x.deliver(0);
        due(0, x.holdsAnew(0, 0));
        due(1, x.holdsAnew(0, 1));
        x.move(1, TODAY, 15);
        due(1, x.holdsAnew(0, 1));
        x.deliver(0);
        due(15, x.holdsAnew(0, 1));
        x.death(1, TODAY);
        x.deliver(0);
        due(NONE, x.holdsAnew(0, 1));
        due(2, x.holdsAnew(0, 2));
        refused(INDEX, () -> x.holdsAnew(1, 0));
        refused(INDEX, () -> x.holdsAnew(-1, 0));
        refused(INDEX, () -> x.holdsAnew(0, 3));
        refused(INDEX, () -> x.holdsAnew(0, -1));
    }

    private static void promise29Bar() {
        Residentroll x = grown(2);
        due(false, x.bar(1, false));
        due(false, x.bar(1, true));
        due(true, x.bar(1, true));
        due(false, x.bar(0, false));
        due(HIDDEN, x.look(1, 1));
        x.join(0, 1);
        due(0, x.look(1, 0));
        due(HIDDEN, x.look(1, 1));
        due(true, x.bar(1, false));
        due(false, x.bar(1, false));
        due(NONE, x.look(1, 1));
        refused(INDEX, () -> x.bar(2, true) ? 1 : 0);
        refused(INDEX, () -> x.bar(-1, true) ? 1 : 0);
    }

    private static void promise30Look() {
        Residentroll x = grown(3);
        due(1, x.look(0, 1));
        due(1, x.look(3, 1));
        x.bar(1, true);
        due(1, x.look(0, 1));
        for (int purpose = 1; purpose <= 3; purpose++) {
            int asks = purpose;
            due(HIDDEN, x.look(asks, 1));
        }
        x.death(2, TODAY);
        due(NONE, x.look(1, 2));
        x.bar(2, true);
        due(HIDDEN, x.look(1, 2));
        due(NONE, x.look(0, 2));
        x.bar(0, true);
        due(HIDDEN, x.look(2, 0));
        refused(INDEX, () -> x.look(4, 3));
        refused(INDEX, () -> x.look(0, -1));
        refused(ARGUMENT, () -> x.look(4, 0));
        refused(ARGUMENT, () -> x.look(-1, 0));
    }

    private static void promise31Looks() {
        Residentroll x = grown(2);
        due(0, x.looks(0));
        x.look(0, 0);
        x.bar(0, true);
        x.look(2, 0);
        due(2, x.looks(0));
        due(0, x.looks(1));
        refused(ARGUMENT, () -> x.look(4, 0));
        due(2, x.looks(0));
        x.join(0, 1);
        x.look(1, 1);
        due(2, x.looks(0));
        due(1, x.looks(1));
        refused(INDEX, () -> x.looks(2));
        refused(INDEX, () -> x.looks(-1));
    }
}
