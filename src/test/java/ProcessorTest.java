/** Promises 16 (place), 18 (begin), 19 (run), 20 (get), 21 (put), 22 (store) and 23 (load). */
public final class ProcessorTest {
    private static final Probe P = new Probe();
    private static final String[] REGISTERS = {"eax", "ecx", "edx", "ebx", "esp", "ebp", "esi", "edi"};

    /**
     * Instructions, what is put ahead of a STEP, and what is another then (f the FLAGS, m and a place the four
     * bytes there), all in base 16. eip is behind the instruction, unless it is told.
     */
    private static final String[][] STEPS = {
        // add, or, adc, sbb, and, sub, xor, cmp, in all their forms
        {"01 c8", "eax=1 ecx=2", "eax=3 f=4"},
        {"01 c8", "eax=7fffffff ecx=1", "eax=80000000 f=894"},
        {"01 c8", "eax=ffffffff ecx=1", "eax=0 f=55"},
        {"01 c8", "eax=80000000 ecx=80000000 f=1", "eax=0 f=845"},
        {"01 c8", "eax=8 ecx=8", "eax=10 f=10"},
        {"03 c1", "eax=1 ecx=2 f=8d5", "eax=3 f=4"},
        {"03 c1", "eax=80000000 ecx=1", "eax=80000001 f=80"},
        {"03 c1", "eax=1 ecx=80000000", "eax=80000001 f=80"},
        {"03 c1", "eax=c0000000 ecx=c0000000", "eax=80000000 f=85"},
        {"03 c1", "eax=bfffffff ecx=bfffffff", "eax=7ffffffe f=811"},
        {"01 08", "eax=20010 ecx=ffffffff m20010=1", "f=55 m20010=0"},
        {"03 41 04", "eax=5 ecx=20000 m20004=fffffffb", "eax=0 f=55"},
        {"09 d1", "ecx=f0 edx=f f=8d5", "ecx=ff f=4"},
        {"09 d1", "f=895", "f=44"},
        {"0b ca", "ecx=80000000 edx=1", "ecx=80000001 f=80"},
        {"11 c8", "eax=ffffffff ecx=0 f=1", "eax=0 f=55"},
        {"11 c8", "eax=7fffffff ecx=0 f=1", "eax=80000000 f=894"},
        {"11 c8", "eax=f ecx=0 f=1", "eax=10 f=10"},
        {"11 c8", "eax=ffffffff ecx=ffffffff f=1", "f=95"},
        {"11 c8", "eax=1 ecx=1", "eax=2"},
        {"13 c1", "eax=1 ecx=1 f=1", "eax=3 f=4"},
        {"19 c8", "eax=0 ecx=0 f=1", "eax=ffffffff f=95"},
        {"19 c8", "eax=0 ecx=ffffffff f=1", "f=55"},
        {"19 c8", "eax=80000000 ecx=0 f=1", "eax=7fffffff f=814"},
        {"19 c8", "eax=5 ecx=3", "eax=2"},
        {"1b c1", "eax=10 ecx=0 f=1", "eax=f f=14"},
        {"21 d8", "eax=ff00ff ebx=f0f0f0 f=8d5", "eax=f000f0 f=4"},
        {"23 c3", "eax=ffffffff ebx=80000003 f=1", "eax=80000003 f=84"},
        {"29 c8", "eax=5 ecx=5", "eax=0 f=44"},
        {"29 c8", "eax=5 ecx=6", "eax=ffffffff f=95"},
        {"29 c8", "eax=80000000 ecx=1", "eax=7fffffff f=814"},
        {"29 c8", "eax=7fffffff ecx=ffffffff", "eax=80000000 f=885"},
        {"29 c8", "eax=10 ecx=1", "eax=f f=14"},
        {"2b c1", "eax=0 ecx=80000000", "eax=80000000 f=885"},
        {"2b c1", "eax=ffffffff ecx=1", "eax=fffffffe f=80"},
        {"2b c1", "eax=1 ecx=ffffffff", "eax=2 f=11"},
        {"2b c1", "eax=80000000 ecx=80000000", "eax=0 f=44"},
        {"2b c1", "eax=ffffffff ecx=80000000", "eax=7fffffff f=4"},
        {"31 ff", "edi=1234 f=8d5", "edi=0 f=44"},
        {"33 f7", "edi=ff esi=7f", "esi=80"},
        {"39 c8", "eax=5 ecx=6 f=8d5", "f=95"},
        {"39 c8", "eax=6 ecx=6", "f=44"},
        {"3b 1d 00 20 02 00", "ebx=3 m22000=4", "f=95"},
        {"3b 1d 00 20 02 00", "ebx=4 m22000=4", "f=44"},
        {"81 c1 00 00 01 00", "ecx=20", "ecx=10020"},
        {"81 e1 e0 ff 00 00", "ecx=12345678 f=1", "ecx=5660 f=4"},
        {"81 c8 00 00 00 80", "eax=1", "eax=80000001 f=80"},
        {"81 d0 ff ff ff ff", "eax=0 f=1", "f=55"},
        {"81 fe 00 30 00 00", "esi=3000", "f=44"},
        {"81 2d 00 00 02 00 01 00 00 00", "m20000=0", "f=95 m20000=ffffffff"},
        {"83 e8 ff", "eax=0", "eax=1 f=11"},
        {"83 e4 f0", "esp=1f", "esp=10"},
        {"83 f0 ff", "eax=f0f0f0f0", "eax=f0f0f0f f=4"},
        {"83 1c 24 00", "esp=20008 m20008=1 f=1", "f=44 m20008=0"},
        {"83 38 80", "eax=20000 m20000=ffffff80", "f=44"},
        // inc, dec, neg, not, test
        {"40", "eax=7fffffff f=1", "eax=80000000 f=895"},
        {"40", "eax=ffffffff", "eax=0 f=54"},
        {"40", "eax=f f=1", "eax=10 f=11"},
        {"47", "edi=0", "edi=1"},
        {"48", "eax=0 f=0", "eax=ffffffff f=94"},
        {"48", "eax=80000000 f=1", "eax=7fffffff f=815"},
        {"48", "eax=1", "eax=0 f=44"},
        {"48", "eax=10", "eax=f f=14"},
        {"4d", "ebp=0", "ebp=ffffffff f=94"},
        {"ff c1", "ecx=ff f=1", "ecx=100 f=15"},
        {"ff 03", "ebx=20004 m20004=ffffffff f=1", "f=55 m20004=0"},
        {"ff 0d 00 00 02 00", "m20000=1", "f=44 m20000=0"},
        {"f7 d8", "eax=0 f=8d5", "f=44"},
        {"f7 d8", "eax=1", "eax=ffffffff f=95"},
        {"f7 d8", "eax=80000000", "f=885"},
        {"f7 d8", "eax=10", "eax=fffffff0 f=85"},
        {"f7 d0", "eax=f0 f=8d5", "eax=ffffff0f"},
        {"f7 55 fc", "ebp=20008 m20004=1", "m20004=fffffffe"},
        {"85 c0", "eax=0 f=8d5", "f=44"},
        {"85 c0", "eax=80000000", "f=84"},
        {"85 4b 08", "ecx=3 ebx=20000 m20008=2", ""},
        {"f7 c2 01 00 00 00", "edx=3 f=8d5", "f=0"},
        {"f7 00 ff 00 00 00", "eax=20000 m20000=7f00", "f=44"},
        // mul, imul, div, idiv
        {"f7 e1", "eax=ffffffff ecx=2 f=d4", "eax=fffffffe edx=1 f=8d5"},
        {"f7 e1", "eax=ffff ecx=ffff f=8d5", "eax=fffe0001 f=d4"},
        {"f7 e1", "eax=10000 ecx=10000", "eax=0 edx=1 f=801"},
        {"f7 e2", "eax=3 edx=80000000", "eax=80000000 edx=1 f=801"},
        {"f7 e9", "eax=ffffffff ecx=2 f=8d5", "eax=fffffffe edx=ffffffff f=d4"},
        {"f7 e9", "eax=80000000 ecx=ffffffff", "f=801"},
        {"f7 e9", "eax=10000 ecx=8000", "eax=80000000 f=801"},
        {"f7 e9", "eax=ffffffff ecx=ffffffff", "eax=1"},
        {"f7 2f", "eax=5 edi=20000 m20000=fffffffd", "eax=fffffff1 edx=ffffffff"},
        {"0f af c1", "eax=ffffffff ecx=7fffffff f=d4", "eax=80000001"},
        {"0f af c1", "eax=10000 ecx=10000", "eax=0 f=801"},
        {"0f af c1", "eax=fffffffe ecx=3 f=801", "eax=fffffffa f=0"},
        {"0f af 18", "ebx=7 eax=20000 m20000=fffffff9", "ebx=ffffffcf"},
        {"f7 f1", "eax=7 edx=0 ecx=2 f=8d5", "eax=3 edx=1"},
        {"f7 f1", "eax=0 edx=7fffffff ecx=80000000", "eax=fffffffe edx=0"},
        {"f7 f1", "eax=ffffffff edx=fffffffe ecx=ffffffff", ""},
        {"f7 f1", "eax=0 edx=1 ecx=2", "eax=80000000 edx=0"},
        {"f7 35 00 00 02 00", "eax=64 m20000=7", "eax=e edx=2"},
        {"f7 f9", "eax=fffffff9 edx=ffffffff ecx=2 f=8d5", "eax=fffffffd"},
        {"f7 f9", "eax=7 edx=0 ecx=fffffffe", "eax=fffffffd edx=1"},
        {"f7 f9", "eax=80000000 edx=ffffffff ecx=1", "edx=0"},
        {"f7 f9", "eax=80000000 edx=0 ecx=ffffffff", ""},
        // shifts
        {"d1 e0", "eax=80000000", "eax=0 f=845"},
        {"d1 e0", "eax=40000000 f=11", "eax=80000000 f=884"},
        {"d1 e0", "eax=c0000000", "eax=80000000 f=85"},
        {"d1 e0", "eax=1 f=8d5", "eax=2 f=0"},
        {"d1 e8", "eax=80000001", "eax=40000000 f=805"},
        {"d1 e8", "eax=1", "eax=0 f=45"},
        {"d1 e8", "eax=2 f=8d5", "eax=1 f=0"},
        {"d1 f8", "eax=80000001 f=810", "eax=c0000000 f=85"},
        {"d1 f8", "eax=1", "eax=0 f=45"},
        {"d1 f8", "eax=ffffffff", "f=85"},
        {"d1 c0", "eax=80000000 f=d4", "eax=1 f=8d5"},
        {"d1 c0", "eax=40000000", "eax=80000000 f=800"},
        {"d1 c0", "eax=c0000001", "eax=80000003 f=1"},
        {"d1 c8", "eax=1 f=d4", "eax=80000000 f=8d5"},
        {"d1 c8", "eax=2", "eax=1"},
        {"d1 c8", "eax=80000001", "eax=c0000000 f=1"},
        {"d1 c8", "eax=80000000", "eax=40000000 f=800"},
        {"c1 e0 04", "eax=18000000 f=10", "eax=80000000 f=85"},
        {"c1 e0 04", "eax=f0000001", "eax=10 f=801"},
        {"c1 e8 05", "eax=ffffffff", "eax=7ffffff f=5"},
        {"c1 e8 05", "eax=10", "eax=0 f=45"},
        {"c1 e8 02", "eax=80000002 f=801", "eax=20000000 f=5"},
        {"c1 f8 1f", "eax=80000000", "eax=ffffffff f=84"},
        {"c1 f8 1f", "eax=7fffffff", "eax=0 f=45"},
        {"c1 c0 08", "eax=12345678 f=d4", "eax=34567812"},
        {"c1 c0 08", "eax=f234567b", "eax=34567bf2"},
        {"c1 c8 24", "eax=12345678 f=d4", "eax=81234567 f=8d5"},
        {"c1 c8 24", "eax=f234567b", "eax=bf234567 f=801"},
        {"c1 c0 1f", "eax=80000003", "eax=c0000001 f=1"},
        {"d3 c8", "eax=f234567b ecx=3f", "eax=e468acf7 f=1"},
        {"c1 e0 20", "eax=5 f=8d5", ""},
        {"c1 e0 00", "eax=0 f=8d5", ""},
        {"d3 e2", "edx=3 ecx=21 f=1", "edx=6 f=4"},
        {"d3 e2", "edx=3 ecx=40 f=8d5", ""},
        {"d3 e2", "edx=3 ecx=1f", "edx=80000000 f=85"},
        {"d3 e1", "ecx=3", "ecx=18 f=4"},
        {"d3 38", "eax=20000 m20000=80000000 ecx=4", "f=84 m20000=f8000000"},
        {"c1 2d 00 00 02 00 01", "m20000=3", "f=1 m20000=1"},
        // bt, the sign to edx, the bytes turned round
        {"0f a3 c8", "eax=8 ecx=3 f=8d4", "f=8d5"},
        {"0f a3 c8", "eax=8 ecx=22 f=8d5", "f=8d4"},
        {"0f a3 c8", "eax=80000000 ecx=ffffffff", "f=1"},
        {"99", "eax=80000000 f=8d5", "edx=ffffffff"},
        {"99", "eax=7fffffff edx=5", "edx=0"},
        {"0f c8", "eax=12345678 f=8d5", "eax=78563412"},
        {"0f cf", "edi=ff00f", "edi=ff00f00"},
        // mov, xchg, lea, movzx, movsx
        {"89 c3", "eax=5 ebx=6 f=8d5", "ebx=5"},
        {"8b c3", "eax=5 ebx=6", "eax=6"},
        {"89 90 00 00 02 00", "eax=10 edx=12345678", "m20010=12345678"},
        {"8b 84 91 00 00 02 00", "ecx=100 edx=4 m20110=55", "eax=55"},
        {"8b 04 25 08 00 02 00", "m20008=66", "eax=66"},
        {"8b 04 8d 00 00 02 00", "ecx=2 m20008=77", "eax=77"},
        {"8b 04 24", "esp=20004 m20004=88", "eax=88"},
        {"8b 44 24 f0", "esp=20014 m20004=88", "eax=88"},
        {"8b 44 65 00", "ebp=20004 m20004=99", "eax=99"},
        {"8b 04 e0", "eax=20000 m20000=3 f=1", "eax=3"},
        {"88 e0", "eax=1234", "eax=1212"},
        {"88 cf", "ebx=11223344 ecx=55667788", "ebx=11228844"},
        {"8a f8", "ebx=11223344 eax=55", "ebx=11225544"},
        {"88 35 03 00 02 00", "edx=ab00", "m20000=ab000000"},
        {"8a 25 03 00 02 00", "m20000=ab000000 eax=11111111", "eax=1111ab11"},
        {"b8 78 56 34 12", "f=8d5", "eax=12345678"},
        {"bf ff ff ff ff", "", "edi=ffffffff"},
        {"c7 c0 01 00 00 00", "eax=7", "eax=1"},
        {"c7 80 04 00 02 00 ff ff ff ff", "eax=8", "m2000c=ffffffff"},
        {"c6 c4 7f", "eax=1", "eax=7f01"},
        {"c6 05 01 00 02 00 80", "m20000=11111111", "m20000=11118011"},
        {"87 d8", "eax=1 ebx=2 f=8d5", "eax=2 ebx=1"},
        {"87 03", "eax=1 ebx=20000 m20000=2", "eax=2 m20000=1"},
        {"87 00", "eax=20000 m20000=2", "eax=2 m20000=20000"},
        {"8d 04 85 00 10 00 00", "eax=3 f=8d5", "eax=100c"},
        {"8d 8d 01 00 00 00", "ebp=ffffffff", ""},
        {"8d 44 c8 80", "eax=1 ecx=20000000", "eax=ffffff81"},
        {"8d 24 64", "esp=5", ""},
        {"0f b6 c4", "eax=fe01 f=8d5", "eax=fe"},
        {"0f b6 80 00 00 02 00", "eax=ffff m2fffc=ab000000", "eax=ab"},
        {"0f be c1", "ecx=80", "eax=ffffff80"},
        {"0f be 3f", "edi=20001 m20000=7f00", "edi=7f"},
        // by conditions
        {"0f 40 c1", "eax=1 ecx=2 f=0", ""},
        {"0f 40 c1", "eax=1 ecx=2 f=800", "eax=2"},
        {"0f 41 c1", "eax=1 ecx=2 f=0", "eax=2"},
        {"0f 41 c1", "eax=1 ecx=2 f=800", ""},
        {"0f 42 c1", "eax=1 ecx=2 f=0", ""},
        {"0f 42 c1", "eax=1 ecx=2 f=1", "eax=2"},
        {"0f 43 c1", "eax=1 ecx=2 f=0", "eax=2"},
        {"0f 43 c1", "eax=1 ecx=2 f=1", ""},
        {"0f 44 c1", "eax=1 ecx=2 f=0", ""},
        {"0f 44 c1", "eax=1 ecx=2 f=40", "eax=2"},
        {"0f 45 c1", "eax=1 ecx=2 f=0", "eax=2"},
        {"0f 45 c1", "eax=1 ecx=2 f=40", ""},
        {"0f 46 c1", "eax=1 ecx=2 f=0", ""},
        {"0f 46 c1", "eax=1 ecx=2 f=1", "eax=2"},
        {"0f 47 c1", "eax=1 ecx=2 f=0", "eax=2"},
        {"0f 47 c1", "eax=1 ecx=2 f=40", ""},
        {"0f 48 c1", "eax=1 ecx=2 f=0", ""},
        {"0f 48 c1", "eax=1 ecx=2 f=80", "eax=2"},
        {"0f 49 c1", "eax=1 ecx=2 f=0", "eax=2"},
        {"0f 49 c1", "eax=1 ecx=2 f=80", ""},
        {"0f 4a c1", "eax=1 ecx=2 f=0", ""},
        {"0f 4a c1", "eax=1 ecx=2 f=4", "eax=2"},
        {"0f 4b c1", "eax=1 ecx=2 f=0", "eax=2"},
        {"0f 4b c1", "eax=1 ecx=2 f=4", ""},
        {"0f 4c c1", "eax=1 ecx=2 f=0", ""},
        {"0f 4c c1", "eax=1 ecx=2 f=80", "eax=2"},
        {"0f 4d c1", "eax=1 ecx=2 f=0", "eax=2"},
        {"0f 4d c1", "eax=1 ecx=2 f=880", "eax=2"},
        {"0f 4e c1", "eax=1 ecx=2 f=0", ""},
        {"0f 4e c1", "eax=1 ecx=2 f=40", "eax=2"},
        {"0f 4f c1", "eax=1 ecx=2 f=0", "eax=2"},
        {"0f 4f c1", "eax=1 ecx=2 f=880", "eax=2"},
        {"0f 94 c4", "eax=ffff f=40", "eax=1ff"},
        {"0f 94 c4", "eax=ffff", "eax=ff"},
        {"0f 9f 05 05 00 02 00", "m20004=55555555 f=40", "m20004=55550055"},
        {"0f 9f 05 05 00 02 00", "m20004=55555555 f=880", "m20004=55550155"},
        {"0f 44 05 00 00 02 00", "m20000=9 f=40", "eax=9"},
        {"0f 44 05 00 00 02 00", "eax=4 m20000=9", ""},
        // jmp, call, ret, push, pop, nop
        {"eb 10", "f=8d5", "eip=10012"},
        {"eb fe", "", "eip=10000"},
        {"eb 80", "", "eip=ff82"},
        {"e9 00 00 00 80", "", "eip=80010005"},
        {"e9 fb ff ff ff", "", "eip=10000"},
        {"74 05", "f=40", "eip=10007"},
        {"74 05", "", ""},
        {"75 05", "f=40", ""},
        {"75 05", "", "eip=10007"},
        {"7f 81", "", "eip=ff83"},
        {"7f 81", "f=80", ""},
        {"7f 81", "f=880", "eip=ff83"},
        {"7f 81", "f=40", ""},
        {"0f 82 00 01 00 00", "f=1", "eip=10106"},
        {"0f 82 00 01 00 00", "f=8d4", ""},
        {"ff e0", "eax=12345", "eip=12345"},
        {"ff 20", "eax=20000 m20000=12345", "eip=12345"},
        {"e8 fb ff ff ff", "esp=20010", "esp=2000c eip=10000 m2000c=10005"},
        {"e8 10 00 00 00", "esp=30000", "esp=2fffc eip=10015 m2fffc=10005"},
        {"ff d0", "eax=12345 esp=20010", "esp=2000c eip=12345 m2000c=10002"},
        {"ff d4", "esp=20010", "esp=2000c eip=20010 m2000c=10002"},
        {"ff 14 24", "esp=20010 m20010=11111", "esp=2000c eip=11111 m2000c=10003"},
        {"c3", "esp=20010 m20010=54321 f=8d5", "esp=20014 eip=54321"},
        {"50", "eax=77 esp=20010 f=8d5", "esp=2000c m2000c=77"},
        {"54", "esp=20010", "esp=2000c m2000c=20010"},
        {"ff 74 24 04", "esp=20010 m20014=5", "esp=2000c m2000c=5"},
        {"ff f1", "ecx=7 esp=20010", "esp=2000c m2000c=7"},
        {"68 78 56 34 12", "esp=20010", "esp=2000c m2000c=12345678"},
        {"6a ff", "esp=20004", "esp=20000 m20000=ffffffff"},
        {"58", "esp=2fffc m2fffc=5 f=8d5", "eax=5 esp=30000"},
        {"5c", "esp=20010 m20010=99", "esp=99"},
        {"5d", "esp=20000", "esp=20004"},
        {"90", "f=8d5 eax=1", ""},
    };

    /** Instructions, what is put ahead of them, and the STOP; then nothing is another. */
    private static final String[][] STOPS = {
        {"f4", "f=8d5", "1"},
        {"8b 00", "eax=1fffd", "2"},
        {"8b 00", "eax=2fffd", "2"},
        {"8b 00", "eax=0", "2"},
        {"8b 00", "eax=10000", "2"},
        {"8b 00", "eax=ffffffff", "2"},
        {"8a 00", "eax=30000", "2"},
        {"8a 00", "eax=1ffff", "2"},
        {"89 00", "eax=2fffe", "2"},
        {"88 00", "eax=30000", "2"},
        {"01 00", "eax=30000", "2"},
        {"39 00", "eax=30000", "2"},
        {"85 00", "eax=30000", "2"},
        {"87 18", "eax=30000 ebx=5", "2"},
        {"0f 44 00", "eax=30000", "2"},
        {"0f 44 00", "eax=30000 f=40", "2"},
        {"0f 94 00", "eax=30000", "2"},
        {"0f b6 00", "eax=30000", "2"},
        {"c1 20 00", "eax=30000 f=1", "2"},
        {"d3 20", "eax=30000 ecx=20", "2"},
        {"f7 30", "eax=30000", "2"},
        {"ff 20", "eax=2fffd", "2"},
        {"ff 10", "eax=2fffd esp=20010", "2"},
        {"ff 10", "eax=20000 esp=20003", "2"},
        {"50", "esp=20003", "2"},
        {"50", "esp=20000", "2"},
        {"50", "esp=30001", "2"},
        {"6a 05", "esp=0", "2"},
        {"ff 30", "eax=20000 esp=20000", "2"},
        {"ff 30", "eax=1fff0 esp=20010", "2"},
        {"58", "esp=2fffd", "2"},
        {"c3", "esp=1ffff", "2"},
        {"e8 00 00 00 00", "esp=20000", "2"},
        {"f7 f1", "eax=5", "5"},
        {"f7 f1", "edx=5 ecx=5", "5"},
        {"f7 f1", "edx=5 ecx=4", "5"},
        {"f7 f9", "eax=5", "5"},
        {"f7 f9", "eax=80000000 ecx=1", "5"},
        {"f7 f9", "edx=80000000 ecx=ffffffff", "5"},
        {"f7 f9", "eax=80000000 edx=ffffffff ecx=ffffffff", "5"},
        {"f7 30", "eax=20000", "5"},
    };

    private static final String[] UNKNOWN = {"00 c0", "02 c0", "04 00", "05 00 00 00 00", "06", "07", "25 00 00 00 00",
        "26", "27", "3c 00", "60", "61", "63 c0", "66 90", "67 90", "69 c0 00 00 00 00", "6b c0 00", "6c", "80 c0 00", "82 c0 00",
        "84 c0", "86 c0", "8c c0", "8d c0", "8d ff", "8e c0", "8f c0", "91", "98", "9c", "a1 00 00 02 00", "a8 00", "b0 00", "c0 c0 00",
        "c1 d0 01", "c1 d8 01", "c1 f0 01", "c2 00 00", "c6 c8 00", "c7 c8 00 00 00 00", "c9", "cc", "d0 c0", "d1 d0",
        "d1 f0", "d2 c0", "d3 d8", "e2 00", "f0 90", "f3 90", "f6 c0 00", "f7 c8 00 00 00 00", "fe c0", "ff d8", "ff e8", "ff f8",
        "ff 18", "0f 00", "0f 05", "0f 0b", "0f 1f 00", "0f 90 c8", "0f 94 ff", "0f a2", "0f a3 00", "0f a3 05 00 00 02 00", "0f ab c0", "0f ba e0 00", "0f b7 c0",
        "0f bf c0", "0f c0 c0", "0f c7 c0", "0f d0", "0f ff"};

    public static void main(String[] args) {
        for (String[] row : STEPS) {
            step(row[0], row[1], row[2]);
        }
        for (String[] row : STOPS) {
            stop(row[0], row[1], Integer.parseInt(row[2]));
        }
        for (String code : UNKNOWN) {
            stop(code, "eax=20000 ecx=20000 esp=20010", 4);
        }
        lastBytes();
        placing();
        beginning();
        running();
        putting();
        memory();
        P.finish();
    }

    private static int number(String token) {
        return (int) Long.parseLong(token.substring(token.indexOf('=') + 1), 16);
    }

    private static int register(String token) {
        for (int k = 0; k < REGISTERS.length; k++) {
            if (token.startsWith(REGISTERS[k])) {
                return k;
            }
        }
        return token.startsWith("f=") ? 8 : token.startsWith("eip=") ? 9 : -1;
    }

    private static int offset(String token) {
        return Integer.parseInt(token.substring(1, token.indexOf('=')), 16) - 131072;
    }

    /** The state that is due if nothing is done, with what is told put in. */
    private static int[] prepare(String code, String ahead) {
        P.fresh();
        P.code(code);
        int[] state = new int[11];
        state[9] = 65536;
        for (String token : ahead.isEmpty() ? new String[0] : ahead.split(" ")) {
            int k = register(token);
            if (k >= 0) {
                P.due("put " + token, P.house.put(k, number(token)), true);
                state[k] = number(token);
            } else {
                P.due("store " + token, P.house.store(offset(token), number(token)), true);
            }
        }
        return state;
    }

    private static void state(String what, int[] want) {
        for (int k = 0; k < want.length; k++) {
            P.due("get " + k + " of " + what, P.house.get(k), want[k]);
        }
    }

    private static void step(String code, String ahead, String behind) {
        int[] state = prepare(code, ahead);
        state[9] += Probe.bytes(code).length;
        String what = code + " with " + ahead;
        P.due("run " + what, P.house.run(1), 1);
        for (String token : behind.isEmpty() ? new String[0] : behind.split(" ")) {
            int k = register(token);
            if (k >= 0) {
                state[k] = number(token);
            } else {
                P.due(token + " of " + what, P.house.load(offset(token)), number(token));
            }
        }
        for (String token : ahead.split(" ")) {
            if (token.startsWith("m") && !behind.contains(token.substring(0, token.indexOf('=')))) {
                P.due(token + " of " + what, P.house.load(offset(token)), number(token));
            }
        }
        state(what, state);
    }

    private static void stop(String code, String ahead, int stop) {
        int[] state = prepare(code, ahead);
        P.house.store(0, 0);
        P.house.store(65532, 0x01020304);
        state[10] = stop;
        String what = code + " with " + ahead;
        P.due("run " + what, P.house.run(3), 0);
        state(what, state);
        P.due("DATA " + what, P.house.load(65532), 0x01020304);
        P.due("DATA " + what, P.house.load(0), 0);
        P.due("run again " + what, P.house.run(3), 0);
        state(what, state);
    }

    /** An M of four bytes fits where DATA ends, and not a byte further; an M of one byte likewise. */
    private static void lastBytes() {
        String[] four = {"01 08", "03 08", "81 00 | 00 00 00 00", "83 00 | 00", "ff 00", "ff 08", "85 08", "f7 00 | 00 00 00 00", "f7 10",
            "f7 18", "f7 20", "f7 28", "f7 30", "f7 38", "0f af 08", "c1 20 | 01", "d1 20", "d3 20", "89 08", "8b 08", "c7 00 | 00 00 00 00",
            "87 08", "0f 44 08", "0f 45 08", "ff 30", "ff 20", "ff 10"};
        String[] one = {"88 08", "8a 08", "c6 00 | 00", "0f b6 08", "0f be 08", "0f 94 00"};
        for (String code : four) {
            edge(code, 4);
        }
        for (String code : one) {
            edge(code, 1);
        }
    }

    private static void edge(String code, int bytes) {
        int[] offsets = {0, 65536 - bytes, -1, 65536 - bytes + 1};
        for (int i = 0; i < offsets.length; i++) {
            prepare(code.replace("| ", ""), "ecx=1 esp=20010 m20000=3 m2fffc=3000003");
            P.house.put(0, 131072 + offsets[i]);
            boolean fine = i < 2;
            String what = code + " at " + offsets[i];
            P.due("STEPS of " + what, P.house.run(1), fine ? 1 : 0);
            P.due("STOP of " + what, P.house.get(10), fine ? 0 : 2);
            check(code, 131072 + offsets[i], bytes, fine);
        }
    }

    /** The same with a number alone in place of eax, in the CHECK. */
    private static void check(String code, int place, int bytes, boolean fine) {
        String[] halves = code.split(" [|] ");
        String opcode = halves[0].substring(0, halves[0].length() - 2);
        int second = Integer.parseInt(halves[0].substring(halves[0].length() - 2), 16) + 5;
        String number = String.format("%02x %02x %02x %02x", place & 255, place >> 8 & 255, place >> 16 & 255, place >>> 24);
        P.fresh();
        P.code(opcode + String.format("%02x ", second) + number + (halves.length > 1 ? halves[1] : ""));
        boolean stackOrJump = code.equals("ff 30") || code.equals("ff 20") || code.equals("ff 10");
        P.due("check of " + code + " at " + place, P.house.check(0), stackOrJump ? 3 : fine ? 0 : 4);
    }

    private static void placing() {
        P.fresh();
        P.code("40 40 f4");
        P.due("run", P.house.run(9), 2);
        P.due("STOP", P.house.get(10), 1);
        P.house.store(8, 5);
        P.house.put(8, 1);
        P.code("b9 01");
        P.due("tape", P.house.count(6), 0);
        P.due("count 7", P.house.count(7), 2);
        int[] state = {2, 0, 0, 0, 0, 0, 0, 0, 1, 65536, 0};
        state("place", state);
        P.due("DATA stays", P.house.load(8), 5);
        P.due("244 behind", P.house.run(1), 1);
        P.due("ecx", P.house.get(1), 0xF4F4F401);
        P.due("HLT behind", P.house.run(5), 0);
        P.due("eip", P.house.get(9), 65541);
        P.due("place none", P.house.place(), 0);
        P.due("count 7", P.house.count(7), 0);
        P.due("run", P.house.run(5), 0);
        P.due("STOP", P.house.get(10), 1);
        P.due("eip", P.house.get(9), 65536);
        P.tape(new byte[4000]);
        P.due("place most", P.house.place(), 4000);
        P.due("run", P.house.run(5), 0);
        P.due("UNKNOWN", P.house.get(10), 4);
    }

    private static void beginning() {
        P.fresh();
        P.code("40 f4 41 41");
        P.due("run", P.house.run(9), 1);
        P.due("begin 2", P.house.begin(2), true);
        P.due("no STOP", P.house.get(10), 0);
        P.due("eip", P.house.get(9), 65538);
        P.due("run", P.house.run(9), 2);
        P.due("ecx", P.house.get(1), 2);
        int[] none = {-1, 65536, Integer.MIN_VALUE, Integer.MAX_VALUE};
        for (int at : none) {
            P.due("begin " + at, P.house.begin(at), false);
            P.due("STOP stays", P.house.get(10), 1);
            P.due("eip stays", P.house.get(9), 65540);
        }
        P.due("begin 65535", P.house.begin(65535), true);
        P.due("eip", P.house.get(9), 131071);
        P.due("run", P.house.run(9), 0);
        P.due("HLT", P.house.get(10), 1);
        P.due("begin 0", P.house.begin(0), true);
        P.due("eip", P.house.get(9), 65536);
    }

    private static void running() {
        P.fresh();
        P.code("40 eb fd");
        P.due("run 0", P.house.run(0), 0);
        P.due("run -1", P.house.run(-1), -1);
        P.due("run 100001", P.house.run(100001), -1);
        P.due("run least", P.house.run(Integer.MIN_VALUE), -1);
        P.due("none was made", P.house.get(0), 0);
        P.due("run 100000", P.house.run(100000), 100000);
        P.due("eax", P.house.get(0), 50000);
        P.due("run 1", P.house.run(1), 1);
        P.due("eax", P.house.get(0), 50001);
        P.due("no STOP", P.house.get(10), 0);
        P.code("40 40 f4");
        P.due("just as many", P.house.run(2), 2);
        P.due("a STOP is not tried", P.house.get(10), 0);
        P.due("none asked for", P.house.run(0), 0);
        P.due("none tried", P.house.get(10), 0);
        P.due("tried", P.house.run(1), 0);
        P.due("HLT", P.house.get(10), 1);
        P.due("a STOP, and another number", P.house.run(-5), -1);
        P.code("e9 00 00 ff ff");
        P.due("out of CODE", P.house.run(5), 1);
        P.due("FETCH", P.house.get(10), 3);
        P.due("eip", P.house.get(9), 5);
        P.code("e9 fb ff 00 00");
        P.due("out of CODE at its other end", P.house.run(5), 1);
        P.due("FETCH", P.house.get(10), 3);
        P.due("eip", P.house.get(9), 131072);
        P.code("c3");
        P.house.put(4, 131072);
        P.house.store(0, -1);
        P.due("out of CODE by ret", P.house.run(5), 1);
        P.due("FETCH", P.house.get(10), 3);
        P.due("eip", P.house.get(9), -1);
        P.code("b8 01 00 00 00 e8 01 00 00 00 f4 40 c3");
        P.house.put(4, 131080);
        P.due("a call and its ret", P.house.run(100), 4);
        P.due("eax", P.house.get(0), 2);
        P.due("eip", P.house.get(9), 65546);
        P.due("esp", P.house.get(4), 131080);
        P.due("what was pushed", P.house.load(4), 65546);
    }

    private static void putting() {
        P.fresh();
        for (int k = 0; k < 8; k++) {
            P.due("put " + k, P.house.put(k, 0x11111111 * (k + 1)), true);
        }
        for (int k = 0; k < 8; k++) {
            P.due("get " + k, P.house.get(k), 0x11111111 * (k + 1));
        }
        P.due("put 8", P.house.put(8, -1), true);
        P.due("FLAGS that there are", P.house.get(8), 2261);
        P.due("put 8", P.house.put(8, 2), true);
        P.due("FLAGS", P.house.get(8), 0);
        int[] none = {-1, 9, 10, 11, Integer.MIN_VALUE, Integer.MAX_VALUE};
        for (int what : none) {
            P.due("put " + what, P.house.put(what, 5), false);
            P.due("get " + what, P.house.get(what), what == 9 ? 65536 : 0);
        }
        P.house.run(1);
        P.house.put(0, 1);
        P.due("a STOP stays", P.house.get(10), 1);
    }

    private static void memory() {
        P.fresh();
        P.due("store 0", P.house.store(0, 0x04030201), true);
        P.due("store 3", P.house.store(3, 0x14131211), true);
        P.due("load 0", P.house.load(0), 0x11030201);
        P.due("load 1", P.house.load(1), 0x12110302);
        P.due("store 65532", P.house.store(65532, -2), true);
        P.due("load 65532", P.house.load(65532), -2);
        P.due("load 65531", P.house.load(65531), 0xFFFFFE00);
        int[] none = {-1, 65533, 65536, 131072, Integer.MIN_VALUE, Integer.MAX_VALUE, -4};
        for (int at : none) {
            P.due("store " + at, P.house.store(at, 5), false);
            P.due("load " + at, P.house.load(at), 0);
        }
        P.due("load 65532", P.house.load(65532), -2);
        P.due("load 0", P.house.load(0), 0x11030201);
        P.code("a1");
        P.due("DATA stays", P.house.load(0), 0x11030201);
    }
}
