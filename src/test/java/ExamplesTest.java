/** The three examples at the end of 'Terms'. */
public final class ExamplesTest {
    public static void main(String[] args) {
        Check check = new Check("ExamplesTest");
        joinedByTimes(check);
        joinedByCut(check);
        linkedWithinTimes(check);
        check.close();
    }

    private static void joinedByTimes(Check check) {
        Sidelessly house = new Sidelessly();
        check.same("atom", 0, house.atom('a', false));
        check.same("axiom", 0, house.axiom(0));
        check.same("second axiom", 1, house.axiom(0));
        check.same("joinTimes", 2, house.joinTimes(0, 0, 1, 0));
        check.same("joinPar", 3, house.joinPar(2, 0, 1));
        check.same("take", 2, house.take(3));
        check.same("byTrips", true, house.byTrips());
        check.same("trees", 1, house.trees());
        check.same("proofs", 2, house.proofs());
    }

    private static void joinedByCut(Check check) {
        Sidelessly house = new Sidelessly();
        check.same("atom", 0, house.atom('a', false));
        check.same("axiom", 0, house.axiom(0));
        check.same("second axiom", 1, house.axiom(0));
        check.same("joinCut", 2, house.joinCut(0, 1, 1, 0));
        check.same("take", 2, house.take(2));
        check.same("passes", 2, house.passes(0));
        check.same("step", 'a', house.step(0));
        check.same("passes behind the step", 1, house.passes(0));
    }

    private static void linkedWithinTimes(Check check) {
        Sidelessly house = new Sidelessly();
        check.same("atom", 0, house.atom('a', false));
        check.same("turned atom", 1, house.atom('a', true));
        check.same("times", 2, house.times(0, 1));
        check.same("place", 0, house.place(2));
        check.same("link", 1, house.link(0, 1));
        check.same("byContraction", false, house.byContraction());
        check.same("counter", 1, house.counter(2));
    }
}
