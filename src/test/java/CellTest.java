/** Promise 10: cell. */
public final class CellTest {
    public static void main(String[] args) {
        Check check = new Check();
        MazeBoard board = new MazeBoard();
        for (int row = 0; row < 9; row++) {
            for (int column = 0; column < 13; column++) {
                int due = " #.o=".indexOf(Model.PLAN[row].charAt(column));
                check.due("cell(" + column + ", " + row + ")", board.cell(column, row), due);
            }
        }
        int[][] outside = {{-1, 0}, {13, 0}, {0, -1}, {0, 9}, {-1, 4}, {13, 4}, {12, 9}, {13, 8}, {117, 0},
            {Integer.MIN_VALUE, 0}, {0, Integer.MIN_VALUE}, {Integer.MAX_VALUE, 8}, {12, Integer.MAX_VALUE}};
        for (int[] place : outside) {
            check.due("cell(" + place[0] + ", " + place[1] + ")", board.cell(place[0], place[1]), -1);
        }
        board = Play.started(Play.TO_ENERGIZER);
        check.due("an eaten energizer", board.cell(1, 7), 0);
        check.due("an eaten dot", board.cell(5, 6), 0);
        check.due("another energizer", board.cell(11, 7), 3);
        check.due("another dot", board.cell(7, 6), 2);
        check.end();
    }
}
