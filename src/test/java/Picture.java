/** All that the face shows of a clock, as a text: to see that a refused call changed nothing. */
final class Picture {
    private Picture() {
    }

    static String of(FlowerClock clock) {
        StringBuilder text = new StringBuilder();
        for (int what = 0; what <= 7; what++) {
            text.append(clock.count(what)).append(' ');
        }
        addLots(clock, text);
        addBuyers(clock, text);
        addPayments(clock, text);
        addOrders(clock, text);
        addShelves(clock, text);
        return text.toString();
    }

    private static void addLots(FlowerClock clock, StringBuilder text) {
        for (int lot = 0; lot < clock.count(1); lot++) {
            text.append("\nlot");
            for (int what = 0; what <= 8; what++) {
                text.append(' ').append(clock.look(lot, what));
            }
        }
        for (int grower = 0; grower < clock.count(0); grower++) {
            text.append("\ntakings ").append(clock.takings(grower));
        }
    }

    private static void addBuyers(FlowerClock clock, StringBuilder text) {
        for (int buyer = 0; buyer < clock.count(2); buyer++) {
            text.append("\nbuyer");
            for (int what = 0; what <= 13; what++) {
                text.append(' ').append(clock.about(buyer, what));
            }
            text.append(" bill ").append(clock.bill(buyer, clock.count(3)));
            for (int lot = 0; lot < clock.count(1); lot++) {
                text.append(' ').append(clock.worth(buyer, lot));
            }
        }
    }

    private static void addPayments(FlowerClock clock, StringBuilder text) {
        for (int payment = 0; payment < clock.count(4); payment++) {
            text.append("\npayment");
            for (int what = 0; what <= 5; what++) {
                text.append(' ').append(clock.payment(payment, what));
            }
            text.append(" cart ").append(clock.cart(payment));
        }
        text.append("\ndocks");
        for (int dock = 0; dock < 4; dock++) {
            text.append(' ').append(clock.dock(dock));
        }
    }

    private static void addOrders(FlowerClock clock, StringBuilder text) {
        for (int order = 0; order < 3; order++) {
            text.append("\norder");
            for (int i = 0; i < clock.count(7); i++) {
                text.append(' ').append(clock.place(order, i));
            }
            int of = order;
            text.append(" would ").append(Checks.nameOfThrown(() -> clock.would(of)));
        }
        text.append("\nforetold");
        for (int sort = 0; sort < 6; sort++) {
            text.append(' ').append(clock.foretold(sort)).append(' ').append(clock.first(sort));
        }
    }

    private static void addShelves(FlowerClock clock, StringBuilder text) {
        for (int shelf = 0; shelf < 8; shelf++) {
            text.append("\nshelf ").append(clock.weight(shelf)).append(' ').append(clock.toss(shelf));
            text.append(' ').append(clock.copy(shelf, 0, shelf, 0, 0));
            addRow(clock, shelf, text);
        }
        text.append('\n');
    }

    private static void addRow(FlowerClock clock, int shelf, StringBuilder text) {
        for (int i = 0; i <= 60; i++) {
            int place = i;
            String element = Checks.nameOfThrown(() -> clock.element(shelf, place));
            text.append(' ').append(element);
            if (element.equals("IllegalStateException")) {
                return;
            }
        }
    }
}
