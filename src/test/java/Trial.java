/** What a test is told with: about a new one nothing is strange, and each word changes one thing of it. */
final class Trial {
    private int vehicle = 0;
    private int tester = 0;
    private int day = 0;
    private int minute = 0;
    private int minutes = 30;
    private int passed = 256;
    private int faults = 0;
    private int miles = 0;
    private int left = 500;
    private int right = 500;

    Trial vehicle(int number) {
        vehicle = number;
        return this;
    }

    Trial tester(int number) {
        tester = number;
        return this;
    }

    Trial day(int number) {
        day = number;
        return this;
    }

    Trial minute(int first) {
        minute = first;
        return this;
    }

    Trial minutes(int many) {
        minutes = many;
        return this;
    }

    Trial failed() {
        passed = 0;
        return this;
    }

    Trial faults(int bits) {
        faults = bits;
        return this;
    }

    Trial miles(int many) {
        miles = many;
        return this;
    }

    Trial brakes(int newLeft, int newRight) {
        left = newLeft;
        right = newRight;
        return this;
    }

    /** Tells the test: what was answered. */
    int on(Asked x) {
        return x.test(100 * vehicle + tester, 10000 * minute + day, 1000 * minutes + passed + faults, miles,
            1000 * left + right);
    }
}
