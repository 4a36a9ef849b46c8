/** The examples of README.md answer what their comments say there: whoever changes one changes both. */
public final class StageWalkerReadme {
    private static int wrong = 0;

    private static void due(String call, long got, long want) {
        if (got != want) {
            wrong++;
            System.out.println("README.md: " + call + " answered " + got + ", due is " + want);
        }
    }

    private static void oneStage() {
        StageWalker x = new StageWalker();
        x.poke(0x2000, 3 << 10 | 0x01, 0, 0, 0, 0);
        x.poke(0x3000, 20 << 10 | 0xCF, 0, 0, 0, 0);
        x.roots(1 << 31 | 2, 0, 0);
        due("translate(1, 1, 8)", x.translate(1, 1, 8), 0);
        due("place()", x.place(), 20 * 4096 + 8);
        due("translate(0, 1, 8)", x.translate(0, 1, 8), 13);
        due("pages(1, 1, 0, 1024)", x.pages(1, 1, 0, 1024), 1);
    }

    private static void twoStages() {
        StageWalker x = new StageWalker();
        x.poke(0x4000, 0xDF, 0, 0, 0, 0);
        x.poke(0x2000, 3 << 10 | 0x01, 0, 0, 0, 0);
        x.poke(0x3000, 20 << 10 | 0xCF, 1024 << 10 | 0xCF, 0, 0, 0);
        x.roots(0, 1 << 31 | 2, 1 << 31 | 4);
        due("translate(3, 1, 8)", x.translate(3, 1, 8), 0);
        due("place()", x.place(), 20 * 4096 + 8);
        due("translate(3, 2, 0x1008)", x.translate(3, 2, 0x1008), 23);
        due("second()", x.second(), 0x400008 >>> 2);
        due("entry()", x.entry() ? 1 : 0, 0);
        x.roots(0, 1 << 31 | 1024, 1 << 31 | 4);
        due("translate(3, 1, 8)", x.translate(3, 1, 8), 21);
        due("second()", x.second(), 0x400000 >>> 2);
        due("entry()", x.entry() ? 1 : 0, 1);
    }

    public static void main(String[] args) {
        oneStage();
        twoStages();
        if (wrong > 0) {
            System.exit(1);
        }
        System.out.println("all answers are as due");
    }
}
