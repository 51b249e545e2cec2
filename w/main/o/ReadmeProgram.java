import java.util.NoSuchElementException;

final class ReadmeProgram {
    static void run(Check check) {

    }
}
