/**
 * The document's sentences. A test says by one of them which sentence it is of, and DocumentTest
 * looks whether they are all there, word by word, and whether each of them has a test.
 */
enum Sentence {
    WHAT_IT_IS("What it is",
        "An arcade board: an 8080 processor counted in states, memory with its mirrors and a screen of one bit a dot, a "
        + "shift register at ports, two interrupts a frame, inputs, sound latches."),
    USED_FOR_512_CALLS("What it is",
        "An object is used for at most 512 calls after it has been made; what later calls answer is free."),

    PROCESSOR("Terms",
        "THE PROCESSOR is Intel's 8080 (Microcomputer Systems User's Manual): registers B, C, D, E, H, L, A of 8 bits, "
        + "SP and PC of 16, flags SIGN, ZERO, AUXILIARY, PARITY (even), CARRY; its instructions with their effects and "
        + "numbers of states (conditional CALL 17 when taken, 11 when not; RET 11, 5; HLT 7; IN, OUT 10; XTHL 18, "
        + "DAD 10, PUSH 11, RST 11, INX, DCX, MOV between registers, INR, DCR of one 5, SPHL, PCHL 5, MOV, ALU with "
        + "memory 7, INR, DCR M, MVI M 10, and so on)."),
    CODES_LEFT_OPEN("Terms",
        "What it leaves open: codes 08, 10, 18, 20, 28, 30, 38 (of base 16) do nothing in 4 states; CB is JMP, D9 RET, "
        + "DD, ED, FD CALL."),
    AUXILIARY("Terms",
        "AUXILIARY: of additions, the carry out of bit 3; of subtractions and comparisons likewise, taken as additions "
        + "of all bits turned and 1 (or, with borrow, 0) more; of INR 1 if the low four bits are 0 then, of DCR 0 if "
        + "they are 15 then; of AND bit 3 of one of both; of OR, XOR 0."),
    DAA("Terms",
        "DAA: six to the low four bits if they are above 9 or AUXILIARY is 1, six to the high ones (and CARRY is 1 "
        + "then) if A was above 153 or CARRY is 1; AUXILIARY is the carry of the first of these."),
    FLAGS_AS_A_BYTE("Terms",
        "The flags as a byte: SIGN, ZERO, 0, AUXILIARY, 0, PARITY, 1, CARRY from bit 7 on."),

    UPPER_BITS_OF_AN_ADDRESS("Terms",
        "MEMORY: an address counts without its upper two bits."),
    PARTS_OF_MEMORY("Terms",
        "Then 0 .. 2047 ROM (what is written there is lost; 2048 .. 8191 are 0 and stay so), 8192 .. 9215 work RAM, "
        + "9216 .. 16383 the screen's."),
    NO_MIRROR_BELOW_RAM("Terms",
        "An address with any of its upper two bits that comes to 0 .. 8191 so is 0, and stays so."),

    SIZE_OF_THE_SCREEN("Terms",
        "THE SCREEN is 224 dots wide and 256 high."),
    PLACE_OF_A_DOT("Terms",
        "Dot x, y (0, 0 at the upper left) is bit (255 - y) % 8 of the byte at 9216 + 32 x + (255 - y) / 8."),

    IN_PORTS("Terms",
        "PORTS. IN 0, 1, 2: the inputs; 3: bits of the SHIFTER: its 16 bits shifted up by the offset, the upper byte of "
        + "the lower 16 bits then; others 0."),
    OUT_PORTS("Terms",
        "OUT 2: the offset, by bits 0 .. 2; 4: the byte comes into the shifter's upper half, what was there into the "
        + "lower one; 3, 5: sound latches; 6: the WATCHDOG is fed; others nothing."),

    STATES_OF_A_FRAME("Terms",
        "A FRAME has 33333 states."),
    REQUESTS_OF_A_FRAME("Terms",
        "When an instruction ends at or behind state 16667 of it, RST 1 (address 8) is requested, at or behind 33333 "
        + "RST 2 (16); what is beyond belongs to the next frame."),
    REQUEST_WAITS("Terms",
        "A request waits till it is taken, or another one replaces it."),
    REQUEST_IS_TAKEN("Terms",
        "It is taken before an instruction if interrupts are enabled: they are disabled, and it is as the instruction "
        + "RST, 11 states."),
    ENABLING("Terms",
        "EI enables them behind the next instruction, whatever that is but DI (another EI, too); where they are enabled "
        + "already they stay so."),
    HALT_WAITS("Terms",
        "HLT waits: state by state, till a request that waits is taken."),
    HALT_WAITS_FOR_EVER("Terms",
        "(With interrupts disabled it waits for ever.)"),
    WATCHDOG("Terms",
        "If 16 frames have ended since the watchdog was fed (that in which it was fed among them), the board is reset at "
        + "the end of the last of them (states of the frame that are beyond stay)."),
    CLEARED_BY_A_RESET("Terms",
        "A RESET: PC, registers, SP, flags, the shifter and its offset, latches are 0, interrupts disabled, no request, "
        + "not halted, the watchdog fed."),
    KEPT_OVER_A_RESET("Terms",
        "RAM stays, and counts of frames and sounds."),

    NEW_OBJECT("Promise 1: A new object",
        "All of memory 0, reset; no frames, no states."),
    LOAD("Promise 2: load",
        "The n lowest bytes of word come into the ROM from an address on, the highest first: the address behind."),
    LOAD_REFUSED("Promise 2: load",
        "IllegalArgumentException if n is not 1 .. 4, or the address not 0 .. 2048 - n."),
    RESET("Promise 3: reset",
        "Resets the board, and its frame begins anew."),
    INPUT("Promise 4: input",
        "An input port (0 .. 2) has these bits (the lowest 8 of a number) from now on."),
    INPUT_REFUSED("Promise 4: input",
        "IllegalArgumentException if there is no such port."),
    STEP("Promise 5: step",
        "Runs one instruction (or takes a request, or waits for one state): how many states it had."),
    RUN("Promise 6: run",
        "Runs instructions until at least so many states (1 .. 40000) have gone by: how many did."),
    RUN_REFUSED("Promise 6: run",
        "IllegalArgumentException for other numbers."),
    REGISTER("Promise 7: register",
        "A register: 0 .. 5 B, C, D, E, H, L, 6 the flags as a byte, 7 A, 8 SP, 9 PC, 10 whether interrupts are enabled "
        + "(1, 0; behind an EI that found them disabled still 0), 11 whether it is halted."),
    REGISTER_REFUSED("Promise 7: register",
        "IllegalArgumentException if there is none such."),
    MEMORY("Promise 8: memory",
        "The byte at an address (its lowest 16 bits), as an instruction would read it."),
    POKE("Promise 9: poke",
        "Writes a byte (the lowest 8 bits) at an address, as an instruction would: what is there then."),
    DOT("Promise 10: dot",
        "A dot: 0 or 1."),
    DOT_REFUSED("Promise 10: dot",
        "IndexOutOfBoundsException if there is none such."),
    LIT("Promise 11: lit",
        "How many dots of a rectangle, from x, y on, w wide and h high, are 1 (those on the screen)."),
    STATE("Promise 12: state",
        "0 the latch of port 3, 1 that of port 5, 2 the states of the frame so far, 3 frames that have ended, 4 the "
        + "request that waits (1, 2; 0 none), 5 frames since the watchdog was fed, 6 what IN 3 would read."),
    STATE_REFUSED("Promise 12: state",
        "IllegalArgumentException if there is none such."),
    SOUNDS("Promise 13: sounds",
        "How often a sound's bit (0 .. 7 of port 3, 8 .. 15 of port 5) went from 0 to 1 by OUT."),
    SOUNDS_REFUSED("Promise 13: sounds",
        "IllegalArgumentException if there is no such bit.");

    final String section;
    final String words;

    Sentence(String section, String words) {
        this.section = section;
        this.words = words;
    }
}
