import java.util.ArrayDeque;
import java.util.ArrayList;
import java.util.Deque;
import java.util.HashMap;
import java.util.List;
import java.util.Map;
import java.util.PriorityQueue;

/**
 * LINES and FLOWS once more, written from the document without a look at FlowHouse: objects for
 * letters and events, ALARMS that are made anew and cancelled. Arguments are taken to be good ones.
 */
final class NetModel {
    /** One of the texts of a RULE; answers null for a division by 0. */
    interface Text {
        Long value(long w, long t, long m, long n, long s);
    }

    static final class Letter {
        Flow flow;
        boolean answer;
        int unit;
        int number;
        int on;
        boolean marked;
        boolean spoilt;

        Letter again() {
            Letter l = new Letter();
            l.flow = flow;
            l.answer = answer;
            l.unit = unit;
            l.number = number;
            l.on = on;
            l.marked = marked;
            l.spoilt = spoilt;
            return l;
        }

        int size() {
            return answer ? flow.answer : flow.data;
        }

        int[] way() {
            return answer ? flow.back : flow.there;
        }
    }

    static final class Event {
        long tick;
        long made;
        int kind;
        Line line;
        Letter letter;
        Flow flow;
        boolean cancelled;
    }

    final class Line {
        int rate;
        int trip;
        int room;
        int mark;
        int seed;
        int loss;
        Map<Integer, Integer> told = new HashMap<>();
        Deque<Letter> queue = new ArrayDeque<>();
        Letter sending;
        int fate;
        int[] counts = new int[8];

        void come(Letter l) {
            counts[0]++;
            if (sending == null) {
                send(l);
                return;
            }
            int sizes = l.size();
            for (Letter q : queue) {
                sizes += q.size();
            }
            if (sizes > room || queue.size() >= 60) {
                counts[2]++;
                return;
            }
            queue.add(l);
            if (sizes > mark) {
                l.marked = true;
                counts[3]++;
            }
        }

        void send(Letter l) {
            int number = counts[1]++;
            if (told.containsKey(number)) {
                fate = told.get(number);
            } else {
                long x = Integer.toUnsignedLong((int) (seed + number * 2654435761L));
                x = Integer.toUnsignedLong((int) ((x ^ x / 32768) * 739));
                fate = x / 4194304 < loss ? 1 : 0;
            }
            if (fate == 1) {
                counts[7]++;
            }
            if (fate == 4) {
                l.spoilt = true;
            }
            sending = l;
            make(now + (l.size() + rate - 1) / rate, 0).line = this;
        }

        void end() {
            Letter l = sending;
            int f = fate;
            sending = null;
            if (!queue.isEmpty()) {
                send(queue.remove());
            }
            if (f != 1) {
                make(now + trip + (f == 3 ? 7 : 0), 1).letter = l;
            }
            if (f == 2) {
                make(now + trip + 1, 1).letter = l.again();
            }
        }
    }

    final class Flow {
        int n;
        int data;
        int answer;
        int w;
        int[] there;
        int[] back;
        long allowance = 1000;
        int wait = 100;
        int smooth = -1;
        int swing = -1;
        int least = -1;
        int latest = -1;
        int sent;
        int open;
        List<Integer> given = new ArrayList<>();
        Map<Integer, Integer> held = new HashMap<>();
        Map<Integer, List<Long>> sendings = new HashMap<>();
        int datas;
        int again;
        int answers;
        int twins;
        int fails;
        int wrong;
        int fence;
        boolean began;
        Event alarm;
        int rule = -1;
        Text[] texts;

        void setAlarm() {
            if (alarm != null) {
                alarm.cancelled = true;
            }
            alarm = make(now + wait, 2);
            alarm.flow = this;
        }

        void send(int unit) {
            datas++;
            sendings.computeIfAbsent(unit, u -> new ArrayList<>()).add(now);
            if (sendings.get(unit).size() > 1) {
                again++;
            }
            if (alarm == null) {
                setAlarm();
            }
            Letter l = new Letter();
            l.flow = this;
            l.unit = unit;
            l.number = unit % (1 << w);
            lines.get(there[0]).come(l);
        }

        void sendAll() {
            while (sent < n && sent < open + (1 << w - 1) && sent - open < allowance / 1000) {
                int unit = sent++;
                send(unit);
            }
        }

        void follow(int text) {
            Long v = texts[text].value(allowance, latest, least, sent - open, smooth);
            if (v == null) {
                fails++;
                v = 1000L;
            }
            allowance = v < 1000 ? 1000 : v > 64000 ? 64000 : v;
        }

        void dataCame(Letter l) {
            int k = given.size() - (1 << w - 1);
            while (Math.floorMod(k, 1 << w) != l.number) {
                k++;
            }
            if (k < 0 || k >= n) {
                return;
            }
            if (k >= given.size()) {
                held.putIfAbsent(k, l.unit);
            }
            while (held.containsKey(given.size())) {
                int unit = held.remove(given.size());
                if (unit != given.size()) {
                    wrong++;
                }
                given.add(unit);
            }
            answers++;
            Letter a = new Letter();
            a.flow = this;
            a.answer = true;
            a.number = given.size() % (1 << w);
            a.marked = l.marked;
            lines.get(back[0]).come(a);
        }

        void answerCame(Letter l) {
            int k = open;
            while (k % (1 << w) != l.number) {
                k++;
            }
            if (k > sent) {
                return;
            }
            if (k > open) {
                int many = k - open;
                open = k;
                List<Long> times = sendings.get(k - 1);
                if (times.size() == 1) {
                    trial((int) (now - times.get(0)));
                }
                twins = 0;
                for (int i = 0; i < (l.marked ? 1 : many); i++) {
                    follow(l.marked ? 3 : 0);
                }
                if (open == sent) {
                    alarm.cancelled = true;
                    alarm = null;
                } else {
                    setAlarm();
                }
            } else if (open < sent) {
                twins++;
                if (twins == 3) {
                    send(open);
                    if (open >= fence) {
                        follow(1);
                        fence = sent;
                    }
                }
            }
            sendAll();
        }

        void trial(int t) {
            latest = t;
            if (least < 0 || t < least) {
                least = t;
            }
            if (smooth < 0) {
                smooth = t;
                swing = t / 2;
            } else {
                int difference = smooth > t ? smooth - t : t - smooth;
                swing = swing + (difference - swing) / 4;
                smooth = smooth + (t - smooth) / 8;
            }
            wait = smooth + (4 * swing > 2 ? 4 * swing : 2);
            wait = wait < 4 ? 4 : wait > 400 ? 400 : wait;
        }

        void alarmRang() {
            alarm = null;
            wait = wait * 2 > 400 ? 400 : wait * 2;
            follow(2);
            fence = sent;
            twins = 0;
            setAlarm();
            send(open);
            sendAll();
        }

        int figure(int what) {
            int[] all = {
                sent, open, given.size(), (int) allowance, wait, smooth, swing, least, datas, again,
                answers, twins, fails, wrong, alarm == null ? -3 : (int) alarm.tick, began ? 1 : 0,
                rule, fence
            };
            return all[what];
        }
    }

    long now;
    long made;
    int done;
    final List<Line> lines = new ArrayList<>();
    final List<Flow> flows = new ArrayList<>();
    private final PriorityQueue<Event> events = new PriorityQueue<>(
            (a, b) -> a.tick != b.tick ? Long.compare(a.tick, b.tick) : Long.compare(a.made, b.made));

    private Event make(long tick, int kind) {
        Event e = new Event();
        e.tick = tick;
        e.made = made++;
        e.kind = kind;
        events.add(e);
        return e;
    }

    void line(int rate, int trip, int room, int mark) {
        Line l = new Line();
        l.rate = rate;
        l.trip = trip;
        l.room = room;
        l.mark = mark;
        lines.add(l);
    }

    Flow flow(int units, int data, int answer, int bits, int[] there, int[] back, int tick) {
        Flow f = new Flow();
        f.n = units;
        f.data = data;
        f.answer = answer;
        f.w = bits;
        f.there = there;
        f.back = back;
        f.texts = new Text[] {
            (w, t, m, n, s) -> w + 1000000 / w, (w, t, m, n, s) -> w / 2,
            (w, t, m, n, s) -> 1000L, (w, t, m, n, s) -> w / 2
        };
        flows.add(f);
        make(tick, 3).flow = f;
        return f;
    }

    int toCome() {
        int all = 0;
        for (Event e : events) {
            all += e.cancelled ? 0 : 1;
        }
        return all;
    }

    int lineOf(int line, int what) {
        Line l = lines.get(line);
        int sizes = 0;
        for (Letter q : l.queue) {
            sizes += q.size();
        }
        return what == 4 ? l.queue.size() : what == 5 ? sizes : what == 6 ? l.sending == null ? 0 : 1
                : l.counts[what];
    }

    int go(int n) {
        int did = 0;
        while (did < n && !events.isEmpty()) {
            Event e = events.remove();
            if (e.cancelled) {
                continue;
            }
            now = e.tick;
            did++;
            if (e.kind == 0) {
                e.line.end();
            } else if (e.kind == 2) {
                e.flow.alarmRang();
            } else if (e.kind == 3) {
                e.flow.began = true;
                e.flow.sendAll();
            } else {
                arrive(e.letter);
            }
        }
        done += did;
        return did;
    }

    private void arrive(Letter l) {
        l.on++;
        if (l.on < l.way().length) {
            lines.get(l.way()[l.on]).come(l);
        } else if (!l.spoilt && l.answer) {
            l.flow.answerCame(l);
        } else if (!l.spoilt) {
            l.flow.dataCame(l);
        }
    }
}
