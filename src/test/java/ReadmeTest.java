import java.nio.file.Files;
import java.nio.file.Path;
import java.util.ArrayList;
import java.util.List;

/** README.md shows calls with their answers: these are the calls, and the answers are as it says. Run from the project's root. */
public final class ReadmeTest {
    private static final List<String> SHOWN = new ArrayList<>();

    private ReadmeTest() {
    }

    public static void main(String[] args) throws Exception {
        Check.part("README");
        for (String line : Files.readAllLines(Path.of("README.md"))) {
            if (line.startsWith("house.")) {
                SHOWN.add(line.replaceAll("; +// ", " = "));
            }
        }
        calls();
        Check.is("calls shown and not tried", SHOWN.size(), 0);
        script();
        Check.end("ReadmeTest");
    }

    private static void calls() {
        GrowHouse house = new GrowHouse();
        Check.is("disks", house.count(0), 4);
        Check.is("rows", house.count(1), 12);
        shown("make(3, 4)", house.make(3, 4));
        shown("fill(0, 8, 10)", house.fill(0, 8, 10));
        shown("grow()", house.grow());
        shown("steps(6)", house.steps(6));
        shown("write(0, 5)", house.write(0, 5));
        shown("crash()", house.crash());
        shown("ask(true, 7, 99, 0)", house.ask(true, 7, 99, 0));
        shown("forecast(10)", house.forecast(10));
        int before = house.count(10);
        shown("tick(10)", house.tick(10));
        Check.is("steps of the tick", house.count(10) - before, 8);
        shown("read(7)", house.read(7));
        shown("lose(1)", house.lose(1));
        shown("steps(400)", house.steps(400));
        Check.is("disks then", house.count(0), 4);
        Check.is("blocks then", house.count(2), 12);
        shown("replace()", house.replace());
    }

    /** The next line of the page is this call, and its answer stands first behind it. */
    private static void shown(String call, Object answer) {
        String line = SHOWN.isEmpty() ? "" : SHOWN.remove(0);
        Check.yes("house." + call + " = " + answer + ", but shown is " + line,
            line.matches("\\Qhouse." + call + " = " + answer + "\\E([:,].*)?"));
    }

    private static void script() throws Exception {
        String text = Files.readAllLines(Path.of("README.md")).stream().filter(x -> x.startsWith("grow; ")).findFirst().orElse("");
        GrowHouse house = Sample.small();
        Check.is(text, Check.script(house, text), 9);
        Check.reads(house, 0, 100, 101, 102, 103, 14);
        Check.is("tick 20", house.count(9), 1);
    }
}
