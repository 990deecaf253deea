final class SmokeTest {
    public static void main(String[] args) {
        if (new SeriesFund().count(0) != 1) {
            System.exit(1);
        }
    }
}
