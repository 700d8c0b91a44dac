/**
 * Each sentence of the terms and the promises that names a boundary case, with a test of its own.
 * At the end it tells which words of the document no test has named.
 */
public final class EdgesTest {
    public static void main(String[] args) throws Exception {
        Doc.open();
        EdgesOfAir.run();
        EdgesOfCrew.run();
        EdgesOfPlant.run();
        EdgesOfTicks.run();
        EdgesOfText.run();
        EdgesOfHunt.run();
        EdgesOfJournal.run();
        EdgesOfShips.run();
        Doc.close();
        Due.end();
    }
}
