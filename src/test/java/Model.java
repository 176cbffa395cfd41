import java.util.ArrayList;
import java.util.List;

/**
 * The document once more, written apart from the program: registers are texts of bits, the lowest
 * first; a way between states is looked for among all sequences of modes; old states are copies.
 */
final class Model {
    private static final String[] NEXT = {
        "1 0", "1 2", "3 9", "4 5", "4 5", "6 8", "6 7", "4 8",
        "1 2", "10 0", "11 12", "11 12", "13 15", "13 14", "11 15", "1 2"};

    static final class Part {
        int codeLength;
        int identity;
        int cells;
        String pins;
        String outputs;
        boolean broken;
        int instruction;
        String code;
        String data;

        Part copy() {
            Part p = new Part();
            p.codeLength = codeLength;
            p.identity = identity;
            p.cells = cells;
            p.pins = pins;
            p.outputs = outputs;
            p.broken = broken;
            p.instruction = instruction;
            p.code = code;
            p.data = data;
            return p;
        }

        String selected() {
            if (instruction == 0 || instruction == 2) {
                return "cells";
            }
            return instruction == 1 && identity > 0 ? "identity" : "bypass";
        }

        int selectedBits() {
            return selected().equals("cells") ? cells : selected().equals("identity") ? 8 : 1;
        }

        void give(int number) {
            instruction = number;
            data = "0".repeat(selectedBits());
        }

        void giveFirst() {
            give(identity > 0 ? 1 : Integer.parseInt("1".repeat(codeLength), 2));
        }
    }

    static final class State {
        List<Part> parts = new ArrayList<>();
        List<Integer> kept = new ArrayList<>();
        int controller = 0;
        int clocks = 0;

        State copy() {
            State s = new State();
            for (Part part : parts) {
                s.parts.add(part.copy());
            }
            s.kept.addAll(kept);
            s.controller = controller;
            s.clocks = clocks;
            return s;
        }
    }

    private State now = new State();
    private State saved = null;
    private final List<State> past = new ArrayList<>();
    private String text = "";

    // ---- actions

    private void remember() {
        past.add(now.copy());
        if (past.size() > 4) {
            past.remove(0);
        }
    }

    private boolean lacks(int chip) {
        return chip < 0 || chip >= now.parts.size();
    }

    int add(int codeLength, int identity, int cells) {
        boolean oddIdentity = identity >= 1 && identity <= 253 && (identity & 1) == 1;
        if (codeLength < 2 || codeLength > 6 || (identity != 0 && !oddIdentity) || cells < 1 || cells > 8) {
            return -2;
        }
        if (now.parts.size() == 6) {
            return -3;
        }
        remember();
        Part p = new Part();
        p.codeLength = codeLength;
        p.identity = identity;
        p.cells = cells;
        p.pins = "0".repeat(cells);
        p.outputs = p.pins;
        p.code = "0".repeat(codeLength);
        p.giveFirst();
        now.parts.add(p);
        return now.parts.size() - 1;
    }

    int take(int chip) {
        if (lacks(chip)) {
            return -1;
        }
        remember();
        return now.parts.remove(chip).identity;
    }

    int setPins(int chip, int pins) {
        if (lacks(chip)) {
            return -1;
        }
        if (pins < 0 || pins > 255) {
            return -2;
        }
        remember();
        Part p = now.parts.get(chip);
        int previous = number(p.pins);
        p.pins = bits(pins, p.cells);
        return previous;
    }

    int breakChip(int chip, boolean isBroken) {
        if (lacks(chip)) {
            return -1;
        }
        remember();
        now.parts.get(chip).broken = isBroken;
        return count(1);
    }

    int clock(int mode, int input) {
        if (mode < 0 || mode > 1 || input < 0 || input > 1) {
            return -2;
        }
        remember();
        return pulse(mode, input);
    }

    int move(int state) {
        if (state < 0 || state > 15) {
            return -2;
        }
        remember();
        int before = now.clocks;
        walk(state);
        return now.clocks - before;
    }

    int identify() {
        remember();
        return reading();
    }

    int load(int chip, int instruction) {
        if (lacks(chip)) {
            return -1;
        }
        if (instruction < 0 || instruction > 63) {
            return -2;
        }
        remember();
        walk(11);
        StringBuilder inputs = new StringBuilder();
        for (int i = now.parts.size() - 1; i >= 0; i--) {
            int length = now.parts.get(i).codeLength;
            inputs.append(i == chip ? bits(instruction, length) : "1".repeat(length));
        }
        scan(inputs.toString());
        walk(1);
        return now.parts.get(chip).selectedBits();
    }

    int exchange(int chip, int data) {
        if (lacks(chip)) {
            return -1;
        }
        if (data < 0 || data > 255) {
            return -2;
        }
        remember();
        return exchanging(chip, data);
    }

    int append(int character) {
        if (character < 32 || character > 126) {
            return -2;
        }
        if (text.length() == 80) {
            return -3;
        }
        text += (char) character;
        return text.length();
    }

    int clearText() {
        int length = text.length();
        text = "";
        return length;
    }

    int fault() {
        if (text.matches("([01ab?]|@[0-9a-f])+")) {
            return -4;
        }
        for (int i = 0; i < text.length(); i++) {
            if (!text.substring(0, i + 1).matches("([01ab?]|@[0-9a-f])*@?")) {
                return i;
            }
        }
        return text.length();
    }

    int run() {
        int fault = fault();
        if (fault != -4) {
            return -100 - fault;
        }
        remember();
        StringBuilder notes = new StringBuilder();
        String rest = text;
        while (!rest.isEmpty()) {
            int used = 1;
            switch (rest.charAt(0)) {
                case '0': pulse(0, 0); break;
                case '1': pulse(0, 1); break;
                case 'a': pulse(1, 0); break;
                case 'b': pulse(1, 1); break;
                case '?': notes.append(pulse(0, 1)); break;
                default: walk(Integer.parseInt(rest.substring(1, 2), 16)); used = 2; break;
            }
            rest = rest.substring(used);
        }
        return number(notes.substring(0, Math.min(30, notes.length())));
    }

    int undo() {
        if (past.isEmpty()) {
            return -4;
        }
        now = past.remove(past.size() - 1);
        return past.size();
    }

    int save() {
        saved = now.copy();
        return now.parts.size();
    }

    int restore() {
        if (saved == null) {
            return -1;
        }
        remember();
        now = saved.copy();
        return now.parts.size();
    }

    // ---- queries

    int chip(int chip, int what) {
        if (lacks(chip)) {
            return -1;
        }
        Part p = now.parts.get(chip);
        int[] told = {p.codeLength, p.identity, p.cells, number(p.pins), number(p.outputs), p.broken ? 1 : 0,
            p.instruction, number(p.code), number(p.data), p.data.length()};
        return what < 0 || what > 9 ? -2 : told[what];
    }

    int count(int what) {
        int broken = 0;
        int codes = 0;
        int data = 0;
        for (Part p : now.parts) {
            broken += p.broken ? 1 : 0;
            codes += p.code.length();
            data += p.data.length();
        }
        int[] told = {now.parts.size(), broken, now.controller, now.clocks, codes, data, now.kept.size(), past.size(), text.length()};
        return what < 0 || what > 8 ? -2 : told[what];
    }

    int found(int index) {
        if (index < 0) {
            return -2;
        }
        return index < now.kept.size() ? now.kept.get(index) : -4;
    }

    int distance(int from, int to) {
        return from < 0 || from > 15 || to < 0 || to > 15 ? -2 : way(from, to).length();
    }

    int peek(int input) {
        return input < 0 || input > 1 ? -2 : output(input);
    }

    int ifIdentified() {
        State kept = now.copy();
        int answer = reading();
        now = kept;
        return answer;
    }

    int ifExchanged(int chip, int data) {
        if (lacks(chip)) {
            return -1;
        }
        if (data < 0 || data > 255) {
            return -2;
        }
        State kept = now.copy();
        int answer = exchanging(chip, data);
        now = kept;
        return answer;
    }

    float bypassed() {
        int sum = 0;
        for (Part p : now.parts) {
            sum += p.selected().equals("bypass") ? 1 : 0;
        }
        return now.parts.isEmpty() ? 0.0f : (float) sum / now.parts.size();
    }

    // ---- what the terms mean

    private int reading() {
        for (int i = 0; i < 5; i++) {
            pulse(1, 1);
        }
        walk(4);
        List<Integer> read = new ArrayList<>();
        while (read.size() < 8) {
            String identity = "" + pulse(0, 1);
            for (int i = 0; i < 7 && identity.charAt(0) == '1'; i++) {
                identity += pulse(0, 1);
            }
            if (identity.equals("11111111")) {
                break;
            }
            read.add(number(identity));
        }
        walk(1);
        now.kept = read;
        return read.size();
    }

    private int exchanging(int chip, int data) {
        walk(4);
        StringBuilder inputs = new StringBuilder();
        int from = 0;
        int to = 0;
        for (int i = now.parts.size() - 1; i >= 0; i--) {
            int length = now.parts.get(i).selectedBits();
            if (i == chip) {
                from = inputs.length();
                to = from + length;
            }
            inputs.append(bits(i == chip ? data : 0, length));
        }
        String outputs = scan(inputs.toString());
        walk(1);
        return number(outputs.substring(from, to));
    }

    private String scan(String inputs) {
        StringBuilder outputs = new StringBuilder();
        for (int i = 0; i < inputs.length(); i++) {
            outputs.append(pulse(i + 1 == inputs.length() ? 1 : 0, inputs.charAt(i) - '0'));
        }
        return outputs.toString();
    }

    private void walk(int to) {
        for (char mode : way(now.controller, to).toCharArray()) {
            pulse(mode - '0', 1);
        }
    }

    private static String way(int from, int to) {
        List<String> modes = new ArrayList<>(List.of(""));
        while (true) {
            List<String> longer = new ArrayList<>();
            for (String sequence : modes) {
                if (behind(from, sequence) == to) {
                    return sequence;
                }
                longer.add(sequence + "0");
                longer.add(sequence + "1");
            }
            modes = longer;
        }
    }

    private static int behind(int state, String modes) {
        for (char mode : modes.toCharArray()) {
            state = Integer.parseInt(NEXT[state].split(" ")[mode - '0']);
        }
        return state;
    }

    private int pulse(int mode, int input) {
        int output = output(input);
        List<Character> coming = new ArrayList<>();
        coming.add((char) ('0' + input));
        for (Part p : now.parts) {
            String shifted = now.controller == 11 ? p.code : p.data;
            coming.add(p.broken ? '1' : shifted.charAt(0));
        }
        for (int i = 0; i < now.parts.size(); i++) {
            Part p = now.parts.get(i);
            switch (now.controller) {
                case 0: p.giveFirst(); break;
                case 3: p.data = captured(p); break;
                case 4: p.data = p.data.substring(1) + coming.get(i); break;
                case 8: p.outputs = p.instruction == 0 ? p.data : p.outputs; break;
                case 10: p.code = bits(1, p.codeLength); break;
                case 11: p.code = p.code.substring(1) + coming.get(i); break;
                case 15: p.give(number(p.code)); break;
                default: break;
            }
        }
        now.controller = behind(now.controller, "" + mode);
        now.clocks++;
        return output;
    }

    private static String captured(Part p) {
        switch (p.selected()) {
            case "cells": return p.pins;
            case "identity": return bits(p.identity, 8);
            default: return "0";
        }
    }

    private int output(int input) {
        if (now.controller != 4 && now.controller != 11) {
            return 1;
        }
        if (now.parts.isEmpty()) {
            return input;
        }
        Part last = now.parts.get(now.parts.size() - 1);
        return last.broken ? 1 : (now.controller == 4 ? last.data : last.code).charAt(0) - '0';
    }

    private static String bits(int number, int length) {
        StringBuilder bits = new StringBuilder();
        for (int i = 0; i < length; i++) {
            bits.append(number / (1 << i) % 2);
        }
        return bits.toString();
    }

    private static int number(String bits) {
        int number = 0;
        for (int i = bits.length() - 1; i >= 0; i--) {
            number = number * 2 + (bits.charAt(i) - '0');
        }
        return number;
    }
}
