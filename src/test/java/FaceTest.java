/** Promises 1 to 14 by their own words: the tape, the rules, and what is told of the latest run. */
public final class FaceTest {
    public static void main(String[] args) {
        newObject();
        tape();
        rules();
        runs();
        bytes();
        clockAndFuel();
        Talk.finish();
    }

    private static void newObject() {
        DialogueTongue tongue = new DialogueTongue();
        Talk.check("NONE", DialogueTongue.NONE, -1);
        Talk.check("out of a new object", tongue.out(), 0);
        Talk.check("told of a new object", tongue.told(), 0);
        Talk.check("fuel of a new object", tongue.fuel(), 0);
        Talk.check("clock of a new object", tongue.clock(), 0L);
        Talk.check("rules of a new object", tongue.rules(), 0);
        Talk.check("live of a new object", tongue.live(), 0);
        Talk.check("outAt(0) throws", Talk.outThrows(tongue, 0), true);
        Talk.check("toldAt(0) throws", Talk.toldThrows(tongue, 0), true);
        Talk.check("the tape is empty", tongue.end(1), false);
        Talk.check("the tape has 0 bytes", tongue.end(0), true);
        Talk.check("an empty run", tongue.run(0), 0);
        tongue.clear();
        Talk.check("rules behind clear", tongue.rules(), 0);
    }

    private static void tape() {
        DialogueTongue tongue = new DialogueTongue();
        for (int i = 0; i < 204; i++) {
            Talk.check("feed " + i, tongue.feed(0x20202020, 0x20202020, 0x20202020, 0x20202020, 0x20202020), true);
        }
        Talk.check("feed beyond 4096", tongue.feed(0, 0, 0, 0, 0), false);
        Talk.check("end beyond the tape", tongue.end(4081), false);
        Talk.check("end below 0", tongue.end(-1), false);
        Talk.check("end of all", tongue.end(4080), true);
        Talk.check("end of less", tongue.end(4077), true);
        Talk.check("feed beyond 4096 by one", tongue.feed(0, 0, 0, 0, 0), false);
        Talk.check("end of less", tongue.end(4076), true);
        Talk.check("feed up to 4096", tongue.feed(0x65727220, 0x20202020, 0x20202020, 0x20202020, 0x20202020), true);
        Talk.check("end of 4096", tongue.end(4096), true);
        Talk.check("run of 4096 bytes", tongue.run(10), 1);
        Talk.check("its message", tongue.out(), "no such command: err".length());
        Talk.check("the tape is empty behind a run", tongue.end(1), false);
        Talk.check("feed", tongue.feed(0x65727264, 0x80FF0001, 0, 0, 0), true);
        Talk.check("end", tongue.end(7), true);
        Talk.check("run", tongue.run(10), 1);
        Talk.check("byte 128", tongue.outAt(tongue.out() - 3), 128);
        Talk.check("byte 255", tongue.outAt(tongue.out() - 2), 255);
        Talk.check("byte 0", tongue.outAt(tongue.out() - 1), 0);
        tongue.feed(0x65727264, 0, 0, 0, 0);
        Talk.check("run with a wrong number of fuel", tongue.run(-1), DialogueTongue.NONE);
        Talk.check("the tape is empty then, too", tongue.end(1), false);
        Talk.check("the result is as it was", tongue.out(), 24);
        Talk.check("the fuel is as it was", tongue.fuel(), 9);
        Talk.check("run with a wrong number of fuel", tongue.run(50001), DialogueTongue.NONE);
        Talk.check("run with most fuel", tongue.run(50000), 0);
        Talk.check("an empty run uses none", tongue.fuel(), 50000);
    }

    private static void rules() {
        Talk talk = new Talk();
        String most = "x".repeat(200);
        Talk.check("rule", talk.rule(0, "", "login: ", 2, 0), 0);
        Talk.check("rule of most bytes", talk.rule(31, most, most, 1000, 31), 1);
        Talk.check("an answer may have a byte 0", talk.rule(0, "", "\0", 0, 0), 2);
        Talk.check("rules", talk.tongue.rules(), 3);
        Talk.check("state", talk.rule(32, "", "", 0, 0), -1);
        Talk.check("state", talk.rule(-1, "", "", 0, 0), -1);
        Talk.check("delay", talk.rule(0, "", "", 1001, 0), -1);
        Talk.check("delay", talk.rule(0, "", "", -1, 0), -1);
        Talk.check("next", talk.rule(0, "", "", 0, 32), -1);
        Talk.check("next", talk.rule(0, "", "", 0, -1), -1);
        Talk.check("pattern", talk.rule(0, most + "x", "", 0, 0), -1);
        Talk.check("answer", talk.rule(0, "", most + "x", 0, 0), -1);
        talk.tape("abc");
        Talk.check("no byte 0", talk.tongue.rule(0, 0, 0), -1);
        Talk.check("the tape is empty then", talk.tongue.end(1), false);
        Talk.check("an empty tape", talk.tongue.rule(0, 0, 0), -1);
        Talk.check("rules", talk.tongue.rules(), 3);
        for (int i = 3; i < 64; i++) {
            Talk.check("rule", talk.rule(0, "a", "b", 0, 0), i);
        }
        Talk.check("rule 64", talk.rule(0, "a", "b", 0, 0), -1);
        Talk.check("rules", talk.tongue.rules(), 64);
        talk.clear();
        Talk.check("rules", talk.tongue.rules(), 0);
        Talk.check("rule behind clear", talk.rule(0, "", "new", 0, 0), 0);
        talk.tells("\2new", "spawn; expect new {}");
        talk.clear();
        talk.tells("", "spawn; expect new {}");
    }

    private static void runs() {
        Talk talk = new Talk();
        talk.fine("5", "set a 5").fails("no such variable: a", "set a");
        talk.fine("", "proc f {} {}").fails("no such command: f", "f");
        talk.fine("", "spawn").fails("no peer", "send x");
        talk.tells("\3a\n", "puts a").tells("\3b\n", "puts b").tells("", "set a 1");
        Talk.check("code 5", talk.run("while 1 {}", 7), 5);
        Talk.check("its fuel", talk.tongue.fuel(), 0);
        Talk.check("its result", talk.out(), "");
        Talk.check("just enough fuel", talk.run("set a 1; set b 2", 2), 0);
        Talk.check("its fuel", talk.tongue.fuel(), 0);
        Talk.check("one too little", talk.run("set a 1; puts b; set b 2", 2), 5);
        Talk.check("what was told stays", talk.told(), "\3b\n");
        Talk.check("no fuel at all", talk.run("set a 1", 0), 5);
        Talk.check("nothing to be run", talk.run(" ; # a", 0), 0);
        Talk.check("a run that ends within a procedure", talk.run("proc f {} {eval {if 1 {while 1 {}}}}; f", 20), 5);
        talk.fine("0", "info level").fine("30", "set e {incr n; eval $e}; catch {eval $e}; set n");
        talk.gives(2, "x", "return -code 2 x").gives(3, "x", "return -code 3 x").gives(4, "x", "return -code 4 x");
    }

    private static void bytes() {
        Talk talk = new Talk();
        talk.run("puts ab; set x \\xff\\0z");
        Talk.check("out", talk.tongue.out(), 3);
        Talk.check("outAt(0)", talk.tongue.outAt(0), 255);
        Talk.check("outAt(1)", talk.tongue.outAt(1), 0);
        Talk.check("outAt(2)", talk.tongue.outAt(2), 122);
        Talk.check("outAt(3) throws", Talk.outThrows(talk.tongue, 3), true);
        Talk.check("outAt(-1) throws", Talk.outThrows(talk.tongue, -1), true);
        Talk.check("outAt of the lowest throws", Talk.outThrows(talk.tongue, Integer.MIN_VALUE), true);
        Talk.check("told", talk.tongue.told(), 4);
        Talk.check("toldAt(0)", talk.tongue.toldAt(0), 3);
        Talk.check("toldAt(3)", talk.tongue.toldAt(3), 10);
        Talk.check("toldAt(4) throws", Talk.toldThrows(talk.tongue, 4), true);
        Talk.check("toldAt(-1) throws", Talk.toldThrows(talk.tongue, -1), true);
        Talk.check("toldAt of the highest throws", Talk.toldThrows(talk.tongue, Integer.MAX_VALUE), true);
        talk.run("");
        Talk.check("outAt(0) throws", Talk.outThrows(talk.tongue, 0), true);
        Talk.check("toldAt(0) throws", Talk.toldThrows(talk.tongue, 0), true);
    }

    private static void clockAndFuel() {
        Talk talk = new Talk();
        talk.run("for {set i 0} {$i < 3000} {incr i} {after 1000000}");
        Talk.check("clock", talk.tongue.clock(), 3000000000L);
        talk.run("after 7; nosuch");
        Talk.check("clock behind an error", talk.tongue.clock(), 7L);
        talk.tongue.run(-5);
        Talk.check("clock behind NONE", talk.tongue.clock(), 7L);
        talk.run("");
        Talk.check("clock", talk.tongue.clock(), 0L);
    }
}
