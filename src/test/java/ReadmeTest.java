import java.io.IOException;
import java.nio.file.Files;
import java.nio.file.Path;
import java.util.ArrayList;
import java.util.List;
import java.util.Set;
import java.util.TreeSet;

/** The example of README.md, with the answers that it tells. */
public final class ReadmeTest {
    private static final Check CHECK = new Check("ReadmeTest");

    private ReadmeTest() {
    }

    public static void main(String[] args) throws IOException {
        example();
        allOfReadmeIsHere();
        CHECK.end();
    }

    // The lines up to the comments are those of README.md, so what it tells is compiled and run.
    private static void example() {
        MortgageRegister register = new MortgageRegister();
        int house = register.addParcel(500);
        int field = register.addParcel(300);
        int first = register.register(0, 200, 1 << house);
        int second = register.register(1, 150, 1 << house | 1 << field);
        int equal = register.registerEqual(2, 50, 1 << house, first);
        CHECK.due("house", house, 0);
        CHECK.due("field", field, 1);
        CHECK.due("first", first, 0);
        CHECK.due("second", second, 1);
        CHECK.due("equal", equal, 2);

        int slots = register.postpone(house, first, second);
        int rank = register.rank(house, second, true);
        float cover = register.cover(house, second);
        CHECK.due("slots", slots, 4);
        CHECK.due("rank", rank, 1);
        CHECK.isTrue("cover", cover == 0.5f);

        register.newDrawer(0, 1, 6);
        int debt = register.file(0, 2, 1, first);
        CHECK.due("debt", debt, 200);

        register.append('y' << 24 | '0' << 16 | ':' << 8 | '3');
        register.append('0' << 8 | ';');
        int entries = register.run();
        CHECK.due("entries", entries, 1);
        CHECK.due("the debt of the first one", register.mortgage(first, 1), 170);

        register.save();
        int surplus = register.auction(house, 260, 10);
        long lost = register.account(5);
        CHECK.due("surplus", surplus, 0);
        CHECK.due("lost", lost, 120);
        int changes = register.undo();
        register.restore();
        int excerpt = register.filed(0, 2, false);
        CHECK.due("changes", changes, 7);
        CHECK.due("changes behind restore", register.count(5), 0);
        CHECK.due("excerpt", excerpt, 200);

        int reason = 0;
        try {
            register.pay(first, 171);
        } catch (UnsupportedOperationException e) {
            reason = register.refusal();
        }
        CHECK.due("reason", reason, 8);
    }

    private static void allOfReadmeIsHere() throws IOException {
        Set<String> here = new TreeSet<>();
        for (String line : Files.readAllLines(Path.of("src/test/java/ReadmeTest.java"))) {
            here.add(line.strip());
        }
        List<String> told = codeOf(Files.readAllLines(Path.of("README.md")));
        CHECK.isTrue("README.md has an example", told.size() > 20);
        for (String line : told) {
            CHECK.isTrue("the line of README.md is tested: " + line, here.contains(line));
        }
    }

    private static List<String> codeOf(List<String> lines) {
        List<String> code = new ArrayList<>();
        boolean isCode = false;
        for (String line : lines) {
            if (line.startsWith("```")) {
                isCode = line.equals("```java");
            } else if (isCode && !line.isBlank()) {
                code.add(line.split("//")[0].strip());
            }
        }
        return code;
    }
}
