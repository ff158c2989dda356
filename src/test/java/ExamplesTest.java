import java.util.List;
import java.util.regex.Matcher;
import java.util.regex.Pattern;

/** The examples of the document, read from there: each call on a new object answers as it says. */
public final class ExamplesTest extends Answers {
    private static final Pattern CALL = Pattern.compile("(\\w+)\\(([^)]*)\\) = ([^;]+?)[;.]( |$)");

    /** Returns how many calls the example has. */
    private static int tryExample(String line) {
        Harnessboard board = new Harnessboard();
        PlainVehicle vehicle = new PlainVehicle();
        Matcher found = CALL.matcher(line.substring(2));
        int calls = 0;
        int read = 0;
        while (found.find() && found.start() == read) {
            Call call = Call.read(found.group(1), found.group(2));
            String want = String.valueOf(Call.value(found.group(3)));
            due(line + " " + call, call.on(board), want);
            due("PlainVehicle: " + line + " " + call, call.on(vehicle), want);
            read = found.end();
            calls++;
        }
        require(read == line.length() - 2, "not all of an example is read: " + line);
        return calls;
    }

    public static void main(String[] args) {
        List<String> examples = Document.examples();
        int[] calls = {7, 6, 7};
        due("how many examples there are", examples.size(), calls.length);
        for (int i = 0; i < calls.length && i < examples.size(); i++) {
            due("calls of the example " + examples.get(i), tryExample(examples.get(i)), calls[i]);
        }
        end();
    }
}
