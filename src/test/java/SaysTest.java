import java.io.IOException;

/** Each sentence of the document that names a boundary case, by itself; all promises, 1 to 20. */
public final class SaysTest {
    public static void main(String[] args) throws IOException {
        TermsSay.all();
        AnyLengthSays.all();
        ByAllSays.all();
        BoardSays.all();
        Says.lookUp();
        Due.end();
    }
}
