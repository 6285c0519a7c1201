import java.io.IOException;

/** Each sentence of the document by itself: "What it is", "Terms", promises 1 to 20. */
public final class SaysTest {
    public static void main(String[] args) throws IOException {
        GamesSay.all();
        TermsSay.all();
        AnyLengthSays.all();
        ByAllSays.all();
        BoardSays.all();
        Says.lookUp();
        Due.end();
    }
}
