public final class PromiseTests {
    public static void main(String[] args) {
        System.out.println("to come");
    }
}
