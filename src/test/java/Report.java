/** Counts the tests that passed and failed, and prints each. */
final class Report {
    private int passed;
    private int failed;

    /** @param faults a line for each answer that is not the one that is due; empty if the test passed */
    void tell(String name, String faults) {
        if (faults.isEmpty()) {
            passed++;
            System.out.println("ok     " + name);
        } else {
            failed++;
            System.out.println("FAILED " + name);
            System.out.print(faults);
        }
    }

    int passed() {
        return passed;
    }

    int failed() {
        return failed;
    }
}
