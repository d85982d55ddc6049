import com.sun.management.ThreadMXBean;
import java.lang.management.ManagementFactory;

/** What runs leave in memory, and how much they make: all calls of an object share one room. */
public final class RoomTest {
    private static final ThreadMXBean THREADS = (ThreadMXBean) ManagementFactory.getThreadMXBean();
    /** The room has 7.3 million elements; most of what is made are characters, of two bytes each. */
    private static final long BYTES = 2 * 6000000;

    public static void main(String[] args) {
        String fullVariables = "set a [string repeat q 1020]; for {set i 0} {$i < 126} {incr i} {set $a$i $a}; set i";
        String operators = "$a|$a^$a&$a==$a<$a<<$a+$a*";
        String deepSum = "set a [string repeat q 1024]; set e {" + operators + ("min($a," + operators).repeat(6) + "[expr $e]" + ")".repeat(6)
            + "}; catch {expr $e} m; set m";
        String deepCommands = "set a [string repeat q 1024]; set b [string repeat q 500]; proc f {} {global a b; "
            + "list $a $b$b[".repeat(8) + "f" + "]".repeat(8) + "}; catch f m; set m";
        String longSum = "set a [string repeat 0 1023]1; expr {" + "$a|$a+$a*(".repeat(7) + "$a" + ")".repeat(7) + "}";
        String longWords = "proc f n {global x bad; if {$n > 0 && ![string equal $x [lindex [list $x [f [expr {$n - 1}]]] 0]]} {incr bad}; set n}; "
            + "set x [string repeat a 1000]; set bad 0; f 13; set bad";
        measure(longSum, 0, "15");
        measure(longWords, 0, "0");
        measure("while 1 {incr i}", 5, "");
        measure("proc f n {if {$n < 2} {return 1}; expr {$n * [f [expr {$n - 1}]]}}; while 1 {f 8}", 5, "");
        measure("set l {}; while 1 {lappend l $l; lsort $l; if {[llength $l] > 5} {set l {}}}", 5, "");
        measure("spawn; expect {} {}; while 1 {send a\\n; expect b {} timeout {}; string match *a*b $expect_out}", 5, "");
        measure(fullVariables, 0, "126");
        measure(deepSum, 0, "too deep");
        measure(deepCommands, 0, "too deep");
        Talk.finish();
    }

    /** Makes an object and 12 runs of a script, which together must keep within the room. */
    private static void measure(String script, int code, String result) {
        long before = allocated();
        Talk talk = new Talk();
        long made = allocated() - before;
        for (int i = 0; i < 12; i++) {
            made += run(talk, script, code);
            // The first run finds its rows small, the later ones find them grown.
            Talk.check("run " + i + " of " + script, talk.out(), result);
        }
        if (made > BYTES) {
            Talk.check("bytes made by 12 runs of " + script, made, "at most " + BYTES);
        }
        for (int i = 0; i < 6; i++) {
            Talk.check("a later run makes nothing", run(talk, "set a 1", 0) < 1000, true);
        }
    }

    private static long run(Talk talk, String script, int code) {
        talk.tape(script);
        long before = allocated();
        int got = talk.tongue.run(50000);
        long made = allocated() - before;
        Talk.check(script, got, code);
        Talk.check("live", talk.tongue.live(), 0);
        return made;
    }

    private static long allocated() {
        return THREADS.getThreadAllocatedBytes(Thread.currentThread().getId());
    }
}
