/** Every command with a word too few, and with one too many. */
public final class WordsTest {
    /** The name, the fewest words behind it, and the most, or -1 for any number. */
    private static final String[] COMMANDS = {
        "set 1 2", "unset 1 1", "incr 1 2", "append 1 -1", "lappend 1 -1", "if 2 -1", "while 2 2", "for 4 4", "foreach 3 3", "break 0 0", "continue 0 0",
        "switch 2 -1", "proc 3 3", "return 0 3", "global 1 -1", "upvar 2 -1", "uplevel 1 -1", "eval 1 -1", "catch 1 2", "error 1 1", "info 1 -1", "expr 1 -1",
        "list 0 -1", "llength 1 1", "lindex 2 2", "lrange 3 3", "lsearch 2 3", "linsert 2 -1", "lreplace 3 -1", "lreverse 1 1", "lsort 1 4", "concat 0 -1",
        "join 1 2", "split 1 2", "string 1 -1", "format 1 -1", "puts 1 1", "spawn 0 0", "send 1 1", "expect 2 -1", "after 1 1", "clock 0 0",
    };
    private static final String[] OPTIONS = {
        "string length 1 1", "string index 2 2", "string range 3 3", "string compare 2 2", "string equal 2 2", "string match 2 2", "string first 2 3",
        "string last 2 3", "string tolower 1 1", "string toupper 1 1", "string trim 1 2", "string trimleft 1 2", "string trimright 1 2", "string repeat 2 2",
        "string reverse 1 1", "string map 2 2", "string replace 3 4", "info exists 1 1", "info level 0 0", "info procs 0 0",
    };

    public static void main(String[] args) {
        for (String command : COMMANDS) {
            String[] parts = command.split(" ");
            look(parts[0], parts[0], Integer.parseInt(parts[1]), Integer.parseInt(parts[2]));
            new Talk().fails("can't be changed: " + parts[0], "proc " + parts[0] + " {} {}");
        }
        for (String option : OPTIONS) {
            String[] parts = option.split(" ");
            look(parts[0], parts[0] + " " + parts[1], Integer.parseInt(parts[2]), Integer.parseInt(parts[3]));
        }
        Talk.finish();
    }

    private static void look(String name, String words, int fewest, int most) {
        String wrong = "wrong number of words: " + name;
        if (fewest > 0) {
            new Talk().fails(wrong, words + " 0".repeat(fewest - 1));
        }
        if (most >= 0) {
            new Talk().fails(wrong, words + " 0".repeat(most + 1));
        }
        isTaken(wrong, words + " 0".repeat(fewest));
        isTaken(wrong, words + " 0".repeat(most < 0 ? fewest + 2 : most));
    }

    /** What a command makes of zeros is its own, but it is not that there are too few or too many. */
    private static void isTaken(String wrong, String script) {
        Talk talk = new Talk();
        talk.run(script, 50);
        boolean special = script.startsWith("if") || script.startsWith("return");
        Talk.check(script, !special && talk.out().equals(wrong), false);
    }
}
