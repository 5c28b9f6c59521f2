/** Promise 7, II. LINKING: REFERENCE, NAME, DESCRIPTOR, TWICE and CODE. */
public final class LinkingTest {
    private static final Checks CHECKS = new Checks();
    private static final String[] TYPES = {"B", "C", "D", "F", "I", "J", "S", "Z", "LA;", "La/b/c;", "[I", "[[[[D",
        "[La/b;", "L(;", "LI;", "L\u007f;", "[LL;"};
    private static final String[] NO_TYPES = {"", "V", "A", "II", "L", "L;", "LA", "L/A;", "LA/;", "La//b;", "La.b;",
        "L[A;", "LA;;", "LA;I", "[", "[V", "[[", "I[", "L<a>;", "L ;", "LA.", "LA[", "LA<", "LA ", "i", ";", "()", "(", ")V", "(V)V", "()", "()VV",
        "()II", "(I", "I)V", "(L;)V", "(LA)V", "()[V", "(()V)V", "()V ", " ()V", "((I)V", "()L;", "([)V", "(I)[",
        "(I))"};
    private static final String[] METHOD_TYPES = {"()V", "()I", "(I)V", "(IJLA;[[I)[LA;", "(FD)D", "(L);)V", "(LV;)LV;",
        "(BCDFIJSZ)V", "([[D[J)[[La/b;"};
    private static final String[] NAMES = {"a", "A", "a1", "<init>".substring(1, 5), "(", ")", "!", "\u007f", "$_-", "V"};
    private static final String[] NO_NAMES = {"", "a.b", "a;", "[a", "a/b", "<a", "a>", " ", "a b", "\u0001", "<init",
        "init>", "<Init>", "<init>x"};

    private LinkingTest() {
    }

    public static void main(String[] args) {
        classesAndStrings();
        uses();
        pairs();
        classNames();
        pairNames();
        types();
        usesAndTheirPairs();
        byNumber();
        thisSuperInterfaces();
        members();
        memberTypes();
        membersTwice();
        codeOrNone();
        CHECKS.end();
    }

    private static void dueAt(String what, ClassMaker maker, int fault, int constant) {
        byte[] bytes = maker.make();
        CHECKS.dueFault(what, bytes, fault, fault == 0 ? ShippedClass.NONE : maker.placeOf(constant));
    }

    private static void classesAndStrings() {
        for (int to : new int[] {0, 2, 5, 6, 7, 999, 65535}) {
            ClassMaker maker = new ClassMaker();
            int wide = maker.longOf(1);
            CHECKS.due("the LONG's numbers", wide, 5);
            int one = maker.classAt(to);
            dueAt("a CLASS of " + to, maker, ShippedClass.REFERENCE, one);
            ClassMaker other = new ClassMaker();
            other.longOf(1);
            int two = other.stringAt(to);
            dueAt("a STRING of " + to, other, ShippedClass.REFERENCE, two);
        }
        ClassMaker maker = new ClassMaker();
        maker.stringAt(maker.text(""));
        maker.stringAt(maker.text(" <>[;./"));
        maker.classAt(maker.stringAt(1) + 2);
        maker.text("Later");
        dueAt("a CLASS of a later TEXT, and STRINGS of any", maker, 0, 0);
    }

    private static void uses() {
        for (int tag = 0; tag < 2; tag++) {
            for (int what = 0; what < 5; what++) {
                ClassMaker maker = new ClassMaker();
                int pair = maker.pairOf("a", tag == 0 ? "I" : "()V");
                int owner = what == 1 ? pair : what == 2 ? 1 : maker.self;
                int second = what == 3 ? maker.self : what == 4 ? 0 : pair;
                int use = tag == 0 ? maker.fieldAt(owner, second) : maker.methodAt(owner, second);
                dueAt("a use " + tag + " " + what, maker, what == 0 ? 0 : ShippedClass.REFERENCE, use);
            }
        }
    }

    private static void pairs() {
        ClassMaker first = new ClassMaker();
        dueAt("a PAIR of no name", first, ShippedClass.REFERENCE, first.pairAt(2, first.text("I")));
        ClassMaker second = new ClassMaker();
        dueAt("a PAIR of no type", second, ShippedClass.REFERENCE, second.pairAt(1, 99));
        ClassMaker both = new ClassMaker();
        dueAt("REFERENCE before NAME", both, ShippedClass.REFERENCE, both.pairAt(both.text("a.b"), 2));
        ClassMaker wrong = new ClassMaker();
        dueAt("NAME before DESCRIPTOR", wrong, ShippedClass.NAME, wrong.pairOf("a.b", "x"));
    }

    private static void classNames() {
        for (String name : NAMES) {
            ClassMaker maker = new ClassMaker();
            maker.classOf(name);
            maker.classOf("a/" + name);
            dueAt("CLASS " + name, maker, 0, maker.classOf(name + "/b/" + name));
        }
        for (String name : NO_NAMES) {
            if (!name.equals("a/b")) {
                ClassMaker maker = new ClassMaker();
                dueAt("CLASS " + name, maker, ShippedClass.NAME, maker.classOf(name));
            }
        }
        for (String name : new String[] {"/", "/a", "a/", "a//b", "a/b/", "[I", "<init>", "a/<init>"}) {
            ClassMaker maker = new ClassMaker();
            dueAt("CLASS " + name, maker, ShippedClass.NAME, maker.classOf(name));
        }
    }

    private static void pairNames() {
        for (String name : NAMES) {
            ClassMaker maker = new ClassMaker();
            dueAt("PAIR " + name, maker, 0, maker.pairOf(name, "I"));
        }
        for (String name : NO_NAMES) {
            ClassMaker maker = new ClassMaker();
            dueAt("PAIR " + name, maker, ShippedClass.NAME, maker.pairOf(name, "I"));
        }
        ClassMaker init = new ClassMaker();
        dueAt("PAIR <init>", init, 0, init.pairOf("<init>", "I"));
        ClassMaker clinit = new ClassMaker();
        dueAt("PAIR <clinit>", clinit, ShippedClass.NAME, clinit.pairOf("<clinit>", "()V"));
    }

    private static void types() {
        for (String type : TYPES) {
            ClassMaker maker = new ClassMaker();
            dueAt("TYPE " + type, maker, 0, maker.ownField("f", type));
            ClassMaker wrong = new ClassMaker();
            dueAt("TYPE " + type + " of a METHOD", wrong, ShippedClass.DESCRIPTOR, wrong.ownMethod("f", type));
            ClassMaker many = new ClassMaker();
            dueAt("TYPE " + type + " in a METHOD TYPE", many, 0, many.ownMethod("f", "(" + type + type + ")" + type));
        }
        for (String type : METHOD_TYPES) {
            ClassMaker maker = new ClassMaker();
            dueAt("METHOD TYPE " + type, maker, 0, maker.ownMethod("f", type));
            ClassMaker wrong = new ClassMaker();
            dueAt("METHOD TYPE " + type + " of a FIELD", wrong, ShippedClass.DESCRIPTOR, wrong.ownField("f", type));
        }
        for (String type : NO_TYPES) {
            ClassMaker maker = new ClassMaker();
            dueAt("no TYPE " + type, maker, ShippedClass.DESCRIPTOR, maker.pairOf("f", type));
        }
    }

    private static void usesAndTheirPairs() {
        ClassMaker field = new ClassMaker();
        dueAt("a FIELD <init>", field, ShippedClass.DESCRIPTOR, field.ownField("<init>", "I"));
        ClassMaker init = new ClassMaker();
        dueAt("a METHOD <init> that answers", init, ShippedClass.DESCRIPTOR, init.ownMethod("<init>", "()I"));
        ClassMaker type = new ClassMaker();
        dueAt("a METHOD <init> that answers V;", type, ShippedClass.DESCRIPTOR, type.ownMethod("<init>", "()LV;"));
        ClassMaker right = new ClassMaker();
        dueAt("a METHOD <init>", right, 0, right.ownMethod("<init>", "(I)V"));
    }

    private static void byNumber() {
        ClassMaker maker = new ClassMaker();
        int first = maker.classOf("a.b");
        maker.classAt(0);
        dueAt("by number, not by fault", maker, ShippedClass.NAME, first);
        ClassMaker later = new ClassMaker();
        later.ownField("<init>", "I");
        int wrong = later.classAt(0);
        dueAt("all constants before their uses", later, ShippedClass.REFERENCE, wrong);
        ClassMaker uses = new ClassMaker();
        uses.parent = 0;
        dueAt("uses before THIS and SUPER", uses, ShippedClass.DESCRIPTOR, uses.ownMethod("m", "I"));
    }

    private static void thisSuperInterfaces() {
        for (int to : new int[] {0, 1, 500}) {
            ClassMaker self = new ClassMaker();
            self.self = to;
            self.parent = to;
            CHECKS.dueFault("THIS of " + to, self.make(), ShippedClass.REFERENCE, self.thisAt);
            ClassMaker parent = new ClassMaker();
            parent.parent = to;
            parent.implementing(0);
            CHECKS.dueFault("SUPER of " + to, parent.make(), ShippedClass.REFERENCE, parent.thisAt + 2);
            ClassMaker one = new ClassMaker();
            one.implementing(one.self).implementing(to).implementing(0);
            one.field(0, "", "");
            CHECKS.dueFault("INTERFACE of " + to, one.make(), ShippedClass.REFERENCE, one.interfacesAt + 2);
            ClassMaker first = new ClassMaker();
            first.implementing(to).implementing(first.self);
            CHECKS.dueFault("the first INTERFACE of " + to, first.make(), ShippedClass.REFERENCE, first.interfacesAt);
        }
    }

    private static ClassMaker.Member add(ClassMaker maker, boolean isMethod, String name, String type) {
        return isMethod ? maker.method(ClassMaker.ABSTRACT, name, type) : maker.field(0, name, type);
    }

    private static void dueMember(boolean isMethod, String name, String type, int fault) {
        ClassMaker maker = new ClassMaker();
        add(maker, isMethod, "first", isMethod ? "()V" : "I");
        ClassMaker.Member member = add(maker, isMethod, name, type);
        byte[] bytes = maker.make();
        CHECKS.dueFault((isMethod ? "METHOD " : "FIELD ") + name + " " + type, bytes, fault,
                fault == 0 ? ShippedClass.NONE : member.at);
    }

    private static void members() {
        for (int i = 0; i < 2; i++) {
            boolean isMethod = i == 1;
            String type = isMethod ? "()V" : "I";
            for (String name : NAMES) {
                dueMember(isMethod, name, type, 0);
            }
            for (String name : NO_NAMES) {
                dueMember(isMethod, name, type, ShippedClass.NAME);
                dueMember(isMethod, name, "x", ShippedClass.NAME);
            }
            dueMember(isMethod, "<init>", type, isMethod ? 0 : ShippedClass.NAME);
            dueMember(isMethod, "<clinit>", type, isMethod ? 0 : ShippedClass.NAME);
            for (int what = 0; what < 2; what++) {
                ClassMaker maker = new ClassMaker();
                ClassMaker.Member member = add(maker, isMethod, "a.b", type);
                member.name = what == 0 ? 2 : member.name;
                member.type = what == 1 ? 0 : member.type;
                CHECKS.dueFault("a member of no TEXT " + what, maker.make(), ShippedClass.REFERENCE, member.at);
            }
        }
        ClassMaker order = new ClassMaker();
        order.method(ClassMaker.ABSTRACT, "", "");
        ClassMaker.Member field = order.field(0, "f", "V");
        CHECKS.dueFault("FIELDS before METHODS", order.make(), ShippedClass.DESCRIPTOR, field.at);
    }

    private static void memberTypes() {
        for (String type : TYPES) {
            dueMember(false, "m", type, 0);
            dueMember(true, "m", type, ShippedClass.DESCRIPTOR);
        }
        for (String type : METHOD_TYPES) {
            dueMember(true, "m", type, 0);
            dueMember(false, "m", type, ShippedClass.DESCRIPTOR);
        }
        for (String type : NO_TYPES) {
            dueMember(true, "m", type, ShippedClass.DESCRIPTOR);
            dueMember(false, "m", type, ShippedClass.DESCRIPTOR);
        }
        dueMember(true, "<init>", "()I", ShippedClass.DESCRIPTOR);
        dueMember(true, "<init>", "(I)V", 0);
        dueMember(true, "<clinit>", "()I", 0);
    }

    private static void membersTwice() {
        for (int i = 0; i < 2; i++) {
            boolean isMethod = i == 1;
            String one = isMethod ? "()V" : "I";
            String other = isMethod ? "(I)V" : "J";
            ClassMaker maker = new ClassMaker();
            add(maker, isMethod, "a", one);
            add(maker, isMethod, "b", one);
            add(maker, isMethod, "a", other);
            CHECKS.dueNone("one of both is the same", maker.make());
            ClassMaker.Member twice = add(maker, isMethod, "a", one);
            twice.flags = 0;
            add(maker, isMethod, "b", one);
            CHECKS.dueFault("both are, in TEXTS of other numbers", maker.make(), ShippedClass.TWICE, twice.at);
        }
    }

    private static void codeOrNone() {
        for (int flags : new int[] {0, 8, 0x400, 0x100, 0x500, 0x200, 0x800}) {
            boolean isBare = (flags & 0x500) != 0;
            ClassMaker maker = new ClassMaker();
            ClassMaker.Member with = maker.method(flags, "m", "()V", 1, 1, 177);
            byte[] bytes = maker.make();
            CHECKS.dueFault("CODE with flags " + flags, bytes, isBare ? ShippedClass.CODE : 0,
                    isBare ? with.at : ShippedClass.NONE);
            ClassMaker bare = new ClassMaker();
            ClassMaker.Member without = bare.method(flags, "m", "()V");
            byte[] none = bare.make();
            int fault = !isBare ? ShippedClass.CODE : (flags & 0x100) != 0 ? ShippedClass.NATIVE : 0;
            CHECKS.dueFault("no CODE with flags " + flags, none, fault, fault == 0 ? ShippedClass.NONE : without.at);
        }
    }
}
