import java.io.IOException;
import java.nio.file.Files;
import java.nio.file.Path;
import java.util.List;

/** The example of README.md: each row below stands there as it is, with the answer that it tells. */
public final class FrostHoleReadme {
    private static int wrong = 0;
    private static int told = 0;
    private static List<String> page;

    private static void tells(String call, long answer, String word) {
        told++;
        String row = null;
        for (String line : page) if (line.startsWith("x." + call + ";")) row = line;
        if (row == null || !row.contains("// " + word + ":")) fault("README.md does not tell " + call + " with: " + word);
        boolean numberTold = !word.startsWith("the least int");
        long due = numberTold ? Long.parseLong(word) : Integer.MIN_VALUE;
        if (answer != due) fault(call + " answered " + answer + ", README.md tells " + word);
    }

    private static void fault(String what) {
        wrong++;
        System.out.println(what);
    }

    public static void main(String[] args) throws IOException {
        page = Files.readAllLines(Path.of("README.md"));
        FrostHole x = new FrostHole();
        for (char b : "0123;1244".toCharArray()) x.type(0, b);
        for (char b : "..ls".toCharArray()) x.type(1, b);
        tells("looks(3, 9, 7)", x.looks(3, 9, 7), "0");
        tells("state(0, 1)", x.state(0, 1), "21");
        tells("first(2, 0)", x.first(2, 0), "9");
        tells("stop(2, 1, 1, 0)", x.stop(2, 1, 1, 0), "1");
        tells("stroke(2, 9)", x.stroke(2, 9), "1");
        tells("state(1, 1)", x.state(1, 1), "12");
        tells("warm(20, 2, 1)", x.warm(20, 2, 1), "24");
        tells("faced()", x.faced(), "0");
        tells("get(1, 0, 0)", x.get(1, 0, 0), "the least int");
        tells("count(8)", x.count(8), "1");
        long rows = page.stream().filter(line -> line.startsWith("x.")).count();
        if (rows != told) fault("README.md has " + rows + " calls, " + told + " are looked at");
        System.out.println(wrong == 0 ? "README.md tells what is answered" : wrong + " faults of README.md");
        if (wrong != 0) System.exit(1);
    }
}
