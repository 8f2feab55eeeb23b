/** Promises 1 to 18 and 22 to 25: what is fed, the values and what is told. */
public final class FaceTest {
    public static void main(String[] args) {
        House h = new House();
        House.due("bytes", h.main("main(a) ::= \"Hi <a>\""), "Hi ");
        House.over();
    }
}
