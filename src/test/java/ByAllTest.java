/** Promises 13 (byAll) and 14 (lostUpTo). */
public final class ByAllTest {
    public static void main(String[] args) {
        for (boolean misere : new boolean[] {false, true}) {
            twoHeaps(0, misere);
            twoHeaps(1, misere);
            threeHeaps(misere);
        }
        wrongNumbers();
        Due.end();
    }

    private static void twoHeaps(int game, boolean misere) {
        boolean[][] won = ByHand.wonOfTwo(game, misere, 60);
        for (int a = 0; a <= 60; a++) {
            for (int b = 0; b <= 60; b++) {
                String call = "byAll(" + game + ", " + misere + ", " + a + ", " + b + ", ..)";
                Due.due(call, Due.any().byAll(game, misere, a, b, 0), won[a][b] ? 1 : 0);
                Due.due(call, Due.any().byAll(game, misere, a, b, a % 2 == 0 ? -7 : Integer.MAX_VALUE), won[a][b] ? 1 : 0);
            }
        }
        for (int m = 1; m <= 60; m++) {
            int lost = 0;
            for (int a = 0; a <= m; a++) {
                for (int b = 0; b <= m; b++) lost += won[a][b] ? 0 : 1;
            }
            Due.due("lostUpTo(" + game + ", " + misere + ", " + m + ")", Due.any().lostUpTo(game, misere, m), lost);
        }
    }

    private static void threeHeaps(boolean misere) {
        boolean[][][] won = ByHand.wonOfThree(misere, 10);
        for (int a = 0; a <= 10; a++) {
            for (int b = 0; b <= 10; b++) {
                for (int c = 0; c <= 10; c++) {
                    String call = "byAll(3, " + misere + ", " + a + ", " + b + ", " + c + ")";
                    Due.due(call, Due.any().byAll(3, misere, a, b, c), won[a][b][c] ? 1 : 0);
                }
            }
        }
        for (int m = 1; m <= 10; m++) {
            int lost = 0;
            for (int a = 0; a <= m; a++) {
                for (int b = 0; b <= m; b++) {
                    for (int c = 0; c <= m; c++) lost += won[a][b][c] ? 0 : 1;
                }
            }
            Due.due("lostUpTo(3, " + misere + ", " + m + ")", Due.any().lostUpTo(3, misere, m), lost);
        }
    }

    private static void wrongNumbers() {
        for (boolean misere : new boolean[] {false, true}) {
            for (int game : new int[] {-1, 2, 4, Integer.MIN_VALUE, Integer.MAX_VALUE}) {
                Due.due("byAll(" + game + ")", Due.any().byAll(game, misere, 1, 1, 1), GoldHeaps.BAD);
                Due.due("lostUpTo(" + game + ")", Due.any().lostUpTo(game, misere, 1), GoldHeaps.BAD);
            }
            for (int game : new int[] {0, 1, 3}) {
                int most = game == 3 ? 10 : 60;
                for (int w : new int[] {-1, most + 1, Integer.MIN_VALUE, Integer.MAX_VALUE}) {
                    Due.due("byAll(" + game + ", " + w + ", 0, 0)", Due.any().byAll(game, misere, w, 0, 0), GoldHeaps.BAD);
                    Due.due("byAll(" + game + ", 0, " + w + ", 0)", Due.any().byAll(game, misere, 0, w, 0), GoldHeaps.BAD);
                    Due.due("lostUpTo(" + game + ", " + w + ")", Due.any().lostUpTo(game, misere, w), GoldHeaps.BAD);
                }
                Due.due("lostUpTo(" + game + ", 0)", Due.any().lostUpTo(game, misere, 0), GoldHeaps.BAD);
            }
            Due.due("byAll(3, 0, 0, 11)", Due.any().byAll(3, misere, 0, 0, 11), GoldHeaps.BAD);
            Due.due("byAll(3, 0, 0, -1)", Due.any().byAll(3, misere, 0, 0, -1), GoldHeaps.BAD);
        }
    }
}
