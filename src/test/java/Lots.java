import java.math.BigInteger;

/** LOTS, reckoned by numbers that never wrap. */
final class Lots {
  private static final BigInteger ALL = BigInteger.ONE.shiftLeft(32);
  private BigInteger seed;

  Lots(int seed) {
    this.seed = BigInteger.valueOf(seed);
  }

  int next(int m) {
    seed = seed.multiply(BigInteger.valueOf(1103515245)).add(BigInteger.valueOf(12345)).mod(ALL);
    return seed.divide(BigInteger.valueOf(65536)).mod(BigInteger.valueOf(m)).intValue();
  }
}
