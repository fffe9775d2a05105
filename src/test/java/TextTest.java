/** Promises 1 to 11: the text, its faults, programs and their types. */
public final class TextTest {
    public static void main(String[] args) {
        Kit kit = new Kit();
        Wasmhall hall = new Wasmhall();
        kit.due("faultKind()", hall.faultKind(), 0);
        kit.end();
    }
}
