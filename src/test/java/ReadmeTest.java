import java.io.IOException;
import java.nio.file.DirectoryStream;
import java.nio.file.Files;
import java.nio.file.Path;

/** README.md says how to use the class and how to run its tests: what it says is so. */
public final class ReadmeTest {
    /** The example as README.md tells it, a statement each; example() does the same. */
    private static final String[] EXAMPLE = {
        "ContractMachine x = new ContractMachine();",
        "x.balance(1, 0, 1000);",
        "x.feed(0x60026003, 0x01600052, 0x60206000, 0xF3000000, 0);",
        "x.end(13);",
        "x.code(2);",
        "int how = x.run(1, 2, 7, 50000);",
        "long five = x.word(24);",
        "int left = x.told(0);",
        "long seven = x.balanceOf(2, 3);"};

    private ReadmeTest() {
    }

    public static void main(String[] args) throws IOException {
        Check check = new Check();
        example(check);
        String text = Files.readString(Path.of("README.md"));
        int at = 0;
        for (String statement : EXAMPLE) {
            at = text.indexOf(statement, Math.max(at, 0));
            check.same("README.md has " + statement, at < 0 ? 1 : 0, 0);
        }
        check.same("README.md tells of .ci/run", text.contains("    .ci/run\n") ? 0 : 1, 0);
        everyTestIsNamed(check, text);
        check.finish("ReadmeTest");
    }

    private static void example(Check check) {
        ContractMachine x = new ContractMachine();
        x.balance(1, 0, 1000);
        check.same("feed", x.feed(0x60026003, 0x01600052, 0x60206000, 0xF3000000, 0), 20);
        check.same("end", x.end(13), 13);
        check.same("code", x.code(2), 13);
        check.same("how", x.run(1, 2, 7, 50000), 1);
        check.same("five", x.word(24), 5);
        // 3 for each of five PUSH1, ADD and MSTORE, and 3 for 32 bytes of MEMORY
        check.same("left", x.told(0), 50000 - 8 * 3);
        check.same("seven", x.balanceOf(2, 3), 7);
    }

    private static void everyTestIsNamed(Check check, String text) throws IOException {
        try (DirectoryStream<Path> tests = Files.newDirectoryStream(Path.of("src/test/java"), "*Test.java")) {
            for (Path test : tests) {
                String name = test.getFileName().toString().replace(".java", "");
                check.same("README.md names " + name, text.contains("`" + name + "`") ? 0 : 1, 0);
            }
        }
    }
}
