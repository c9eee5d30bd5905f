import java.util.Random;

/** Promises 34 to 37: piece, speed, film, grade. */
public final class FilmsTest {
    public static void main(String[] args) {
        refusals();
        byHand();
        for (int seed = 0; seed < 2000; seed++) {
            randomFilm(new Random(seed));
        }
        longest();
        Due.end("FilmsTest");
    }

    private static void refusals() {
        FlowHouse x = new FlowHouse();
        Due.same("grade before", x.grade(0), FlowHouse.UNKNOWN);
        Due.same("piece", x.piece(-1, 0, 1, 0), FlowHouse.UNKNOWN);
        Due.same("piece", x.piece(12, 0, 0, 0), FlowHouse.UNKNOWN);
        Due.same("piece", x.piece(0, -1, 1, 0), FlowHouse.UNKNOWN);
        Due.same("piece", x.piece(0, 4, 0, 0), FlowHouse.UNKNOWN);
        Due.same("piece", x.piece(0, 0, 0, 0), FlowHouse.OUTSIDE);
        Due.same("piece", x.piece(0, 0, 1001, 0), FlowHouse.OUTSIDE);
        Due.same("piece", x.piece(0, 0, 1, -1), FlowHouse.OUTSIDE);
        Due.same("piece", x.piece(0, 0, 1, 1001), FlowHouse.OUTSIDE);
        Due.same("piece", x.piece(11, 3, 1000, 1000), 1);
        Due.same("speed", x.speed(-1, 1), FlowHouse.UNKNOWN);
        Due.same("speed", x.speed(12, 0), FlowHouse.UNKNOWN);
        Due.same("speed", x.speed(0, 0), FlowHouse.OUTSIDE);
        Due.same("speed", x.speed(0, 1001), FlowHouse.OUTSIDE);
        Due.same("speed", x.speed(0, 1000), 1);
        Due.same("speed", x.speed(0, 7), 1000);
        int[][] bad = {
            {0, 0, 1, 1}, {13, 0, 1, 1}, {1, -1, 1, 1}, {1, 2, 1, 1}, {1, 0, 0, 1}, {1, 0, 401, 1},
            {1, 0, 1, 0}, {1, 0, 1, 101}
        };
        for (int[] a : bad) {
            Due.same("film", x.film(a[0], a[1], a[2], a[3]), FlowHouse.OUTSIDE);
        }
        Due.same("grade still", x.grade(0), FlowHouse.UNKNOWN);
        Due.same("it stalls: each piece takes 1", x.film(1, 0, 400, 100), FlowHouse.NO);
        Due.same("grade still", x.grade(0), FlowHouse.UNKNOWN);
        Due.same("film", x.film(2, 1, 1, 1), 0);
        Due.same("grade", x.grade(1), 0);
        Due.same("grade", x.grade(2), FlowHouse.UNKNOWN);
        Due.same("grade", x.grade(-1), FlowHouse.UNKNOWN);
    }

    private static void byHand() {
        FlowHouse x = new FlowHouse();
        for (int i = 0; i < 3; i++) {
            x.speed(i, 10);
            for (int g = 0; g < 4; g++) {
                x.piece(i, g, 10 * (g + 1), 10 * g);
            }
        }
        Due.same("film", x.film(3, 4, 4, 1), 30);
        int[] due = {0, 0, 3};
        for (int i = 0; i < 3; i++) {
            Due.same("the least row " + i, x.grade(i), due[i]);
        }
        Due.same("film", x.film(3, 4, 4, 4), 90);
        x.piece(1, 2, 31, 20);
        Due.same("up to a whole tick", x.film(3, 3, 4, 1), 20);
        Due.same("no", x.film(3, 0, 4, 1), FlowHouse.NO);
        Due.same("what was found stays", x.grade(2), 2);
        Due.same("film", x.film(1, 4, 4, 1), 30);
        Due.same("grade", x.grade(1), FlowHouse.UNKNOWN);
    }

    private static int best;
    private static int[] bestRow;

    private static void randomFilm(Random random) {
        FlowHouse x = new FlowHouse();
        int n = 1 + random.nextInt(5);
        int[][] sizes = new int[n][4];
        int[][] worths = new int[n][4];
        int[] speeds = new int[n];
        for (int i = 0; i < n; i++) {
            speeds[i] = 1 + random.nextInt(random.nextBoolean() ? 20 : 100);
            x.speed(i, speeds[i]);
            for (int g = 0; g < 4; g++) {
                sizes[i][g] = 1 + random.nextInt(random.nextBoolean() ? 200 : 1000);
                worths[i][g] = random.nextInt(random.nextBoolean() ? 4 : 1001);
                x.piece(i, g, sizes[i][g], worths[i][g]);
            }
        }
        int most = 1 + random.nextInt(random.nextBoolean() ? 400 : 40);
        int b = random.nextInt(most + 1);
        int length = 1 + random.nextInt(random.nextBoolean() ? 100 : 10);
        best = FlowHouse.NO;
        bestRow = new int[0];
        tryRows(sizes, worths, speeds, new int[] {b, most, length}, new int[n], 0, b, 0);
        Due.same("film", x.film(n, b, most, length), best);
        for (int i = 0; i < bestRow.length; i++) {
            Due.same("grade", x.grade(i), bestRow[i]);
        }
        Due.same("grade", x.grade(bestRow.length), FlowHouse.UNKNOWN);
    }

    /** All rows, the least first. */
    private static void tryRows(int[][] sizes, int[][] worths, int[] speeds, int[] told, int[] row, int i,
            int full, int worth) {
        if (i == row.length) {
            if (worth > best) {
                best = worth;
                bestRow = row.clone();
            }
            return;
        }
        for (int g = 0; g < 4; g++) {
            int left = full - (int) Math.ceil(sizes[i][g] / (double) speeds[i]);
            if (left >= 0) {
                row[i] = g;
                tryRows(sizes, worths, speeds, told, row, i + 1, Math.min(told[1], left + told[2]),
                        worth + worths[i][g]);
            }
        }
    }

    private static void longest() {
        FlowHouse x = new FlowHouse();
        for (int i = 0; i < 12; i++) {
            for (int g = 0; g < 4; g++) {
                x.piece(i, g, 100 * g + 1, 250 * (g + 1));
            }
            x.speed(i, i + 1);
        }
        Due.same("film", x.film(12, 400, 400, 100) > 11000 ? 1 : 0, 1);
        Due.same("grade", x.grade(11), 3);
    }
}
