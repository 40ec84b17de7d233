/** The edges of promises 33 and 34: ODDS and HOPE, a part of a fraction. */
public final class OddsEdgeTest {
    private static final int BAD = SpringOaths.BAD;

    public static void main(String[] args) {
        oddsRanges();
        nobodyDrinks();
        hardlyAnybodyDoesNot();
        withoutACommonDivisor();
        togetherOne();
        hopeRanges();
        hopeCut();
        bothByTheLaw();
        Check.end("OddsEdgeTest");
    }

    private static SpringOaths drink(int v) {
        SpringOaths x = new SpringOaths();
        x.set(3, v);
        return x;
    }

    private static void odds(int drink, int n, int k, long above, long below) {
        SpringOaths x = drink(drink);
        String call = k + " of " + n + " by " + drink;
        Check.due(call + ", above", x.odds(n, k, 0), above);
        Check.due(call + ", below", x.odds(n, k, 1), below);
    }

    private static void hope(int drink, int n, long above, long below) {
        SpringOaths x = drink(drink);
        Check.due("hope of " + n + " by " + drink + ", above", x.hope(n, 0), above);
        Check.due("hope of " + n + " by " + drink + ", below", x.hope(n, 1), below);
    }

    private static void oddsRanges() {
        SpringOaths x = new SpringOaths();
        for (int n = 0; n <= 8; n++) {
            for (int part = 0; part < 2; part++) {
                Check.holds("k 0 of " + n, x.odds(n, 0, part) > 0);
                Check.holds("k " + n + " of " + n, x.odds(n, n, part) > 0);
                Check.due("k -1 of " + n, x.odds(n, -1, part), BAD);
                Check.due("k above " + n, x.odds(n, n + 1, part), BAD);
            }
            Check.due("part 2", x.odds(n, 0, 2), BAD);
            Check.due("part -1", x.odds(n, 0, -1), BAD);
        }
        Check.due("n 9", x.odds(9, 0, 0), BAD);
        Check.due("n -1", x.odds(-1, 0, 0), BAD);
        Check.due("n -1, k -1", x.odds(-1, -1, 0), BAD);
        Check.due("n 9, k 9", x.odds(9, 9, 1), BAD);
    }

    /** "0 is 0 by 1". */
    private static void nobodyDrinks() {
        for (int n = 0; n <= 8; n++) {
            for (int k = 0; k <= n; k++) {
                odds(0, n, k, k == 0 ? 1 : 0, 1);
            }
        }
    }

    private static void hardlyAnybodyDoesNot() {
        odds(99, 8, 8, 9227446944279201L, 10000000000000000L);
        odds(99, 8, 0, 1, 10000000000000000L);
        odds(99, 8, 1, 99, 1250000000000000L);
        odds(1, 8, 8, 1, 10000000000000000L);
        odds(1, 8, 0, 9227446944279201L, 10000000000000000L);
        odds(99, 1, 1, 99, 100);
        odds(99, 0, 0, 1, 1);
    }

    private static void withoutACommonDivisor() {
        odds(50, 8, 4, 35, 128);
        odds(50, 1, 0, 1, 2);
        odds(20, 1, 1, 1, 5);
        odds(20, 2, 1, 8, 25);
        odds(20, 3, 0, 64, 125);
        odds(75, 2, 2, 9, 16);
        odds(98, 2, 1, 49, 1250);
    }

    /** All k of one n are 1 together. */
    private static void togetherOne() {
        for (int drink : new int[] {0, 1, 37, 50, 99}) {
            SpringOaths x = drink(drink);
            for (int n = 0; n <= 8; n++) {
                long whole = 1;
                for (int i = 0; i < n; i++) {
                    whole *= 100;
                }
                long sum = 0;
                for (int k = 0; k <= n; k++) {
                    sum += x.odds(n, k, 0) * (whole / x.odds(n, k, 1));
                }
                Check.due("all of " + n + " by " + drink, sum, whole);
            }
        }
    }

    private static void hopeRanges() {
        SpringOaths x = new SpringOaths();
        Check.due("n 100", x.hope(100, 0), BAD);
        Check.due("n -1", x.hope(-1, 0), BAD);
        Check.due("part 2", x.hope(0, 2), BAD);
        Check.due("part -1", x.hope(0, -1), BAD);
        hope(20, 0, 0, 1);
        hope(20, 99, 99, 5);
        hope(99, 99, 9801, 100);
        hope(1, 1, 1, 100);
        hope(0, 99, 0, 1);
        hope(0, 0, 0, 1);
        hope(99, 0, 0, 1);
    }

    private static void hopeCut() {
        hope(50, 2, 1, 1);
        hope(50, 99, 99, 2);
        hope(25, 8, 2, 1);
        hope(20, 5, 1, 1);
        hope(75, 6, 9, 2);
        hope(98, 50, 49, 1);
    }

    /** As DRINK is now, whoever is there. */
    private static void bothByTheLaw() {
        SpringOaths x = drink(50);
        Check.due("half", x.odds(1, 1, 1), 2);
        x.set(3, 25);
        Check.due("a fourth", x.odds(1, 1, 1), 4);
        Check.due("a fourth", x.hope(1, 1), 4);
        x.moor();
        Check.due("a fifth", x.odds(1, 1, 1), 5);
        Check.due("a fifth", x.hope(1, 1), 5);
    }
}
