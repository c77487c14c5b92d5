final class ModelTest {
    static void run(Report report) {}
}
