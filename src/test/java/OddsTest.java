import java.math.BigInteger;

/** Promises 33 and 34: ODDS and HOPE. */
public final class OddsTest {
    private static final int BAD = SpringOaths.BAD;

    public static void main(String[] args) {
        odds();
        oddsRefuse();
        hope();
        hopeRefuses();
        Check.end("OddsTest");
    }

    private static void odds() {
        for (int drink = 0; drink <= 99; drink++) {
            SpringOaths x = new SpringOaths();
            x.set(3, drink);
            for (int n = 0; n <= 8; n++) {
                for (int k = 0; k <= n; k++) {
                    BigInteger above = BigInteger.valueOf(drink).pow(k).multiply(BigInteger.valueOf(100 - drink).pow(n - k));
                    for (int i = 0; i < k; i++) {
                        above = above.multiply(BigInteger.valueOf(n - i)).divide(BigInteger.valueOf(i + 1));
                    }
                    BigInteger below = BigInteger.valueOf(100).pow(n);
                    BigInteger divisor = above.gcd(below);
                    String call = "odds(" + n + ", " + k + ") by " + drink;
                    Check.due(call, x.odds(n, k, 0), above.divide(divisor).longValueExact());
                    Check.due(call, x.odds(n, k, 1), below.divide(divisor).longValueExact());
                }
            }
        }
        SpringOaths x = new SpringOaths();
        x.set(3, 0);
        Check.due("0 is 0 by 1", x.odds(8, 3, 0), 0);
        Check.due("0 is 0 by 1", x.odds(8, 3, 1), 1);
        Check.due("sure is 1 by 1", x.odds(0, 0, 0), 1);
        Check.due("sure is 1 by 1", x.odds(0, 0, 1), 1);
        x.set(3, 99);
        Check.due("the longest", x.odds(8, 0, 1), 10000000000000000L);
    }

    private static void oddsRefuse() {
        SpringOaths x = new SpringOaths();
        Check.due("n 9", x.odds(9, 0, 0), BAD);
        Check.due("n -1", x.odds(-1, 0, 0), BAD);
        Check.due("n -1, k -1", x.odds(-1, -1, 0), BAD);
        Check.due("k above n", x.odds(3, 4, 0), BAD);
        Check.due("k -1", x.odds(3, -1, 0), BAD);
        Check.due("part 2", x.odds(3, 1, 2), BAD);
        Check.due("part -1", x.odds(3, 1, -1), BAD);
    }

    private static void hope() {
        SpringOaths x = new SpringOaths();
        Check.due("hope(0, 0)", x.hope(0, 0), 0);
        Check.due("hope(0, 1)", x.hope(0, 1), 1);
        Check.due("hope(5, 0)", x.hope(5, 0), 1);
        Check.due("hope(5, 1)", x.hope(5, 1), 1);
        x.set(3, 99);
        Check.due("hope(99, 0)", x.hope(99, 0), 9801);
        Check.due("hope(99, 1)", x.hope(99, 1), 100);
        Check.due("hope(50, 0)", x.hope(50, 0), 99);
        Check.due("hope(50, 1)", x.hope(50, 1), 2);
        x.set(3, 0);
        Check.due("hope(50, 0)", x.hope(50, 0), 0);
        Check.due("hope(50, 1)", x.hope(50, 1), 1);
    }

    private static void hopeRefuses() {
        SpringOaths x = new SpringOaths();
        Check.due("n 100", x.hope(100, 0), BAD);
        Check.due("n -1", x.hope(-1, 0), BAD);
        Check.due("part 2", x.hope(1, 2), BAD);
        Check.due("part -1", x.hope(1, -1), BAD);
    }
}
