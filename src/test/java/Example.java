public final class Example {
    public static void main(String[] args) {
        Archivepress office = new Archivepress();
        int letters = office.addDocument();                   // 0
        int name = office.addLine(letters, 10);               // 0
        int street = office.addLine(letters, 20);             // 1
        int person = office.addLine(letters, 30);             // 2
        office.addJoin(name, street, person);                 // who holds both lines knows the third one
        office.addRule(30, 39, 5);                            // values 30 to 39 are hidden up to the day 5

        int asker = 0;
        int request = office.request(asker, letters);         // 0
        System.out.println(office.answer(request));           // 1: the name alone
        System.out.println(office.why(asker, street));        // j: with it, the person would be told
        System.out.println(office.root(asker, street));       // r: and a rule hides the person
        System.out.println(office.causes(asker, street));     // 2: 'j', which 'r' causes
        System.out.println(office.owed(asker));               // 5

        try {
            office.root(asker, name);
        } catch (IllegalStateException e) {
            System.out.println("held");                       // held: so there is no reason to withhold it
        }

        office.pass(6);                                       // the rule has ended
        System.out.println(office.isHidden(person));          // false
        int again = office.request(asker, letters);           // 1
        System.out.println(office.answer(again));             // 1: the street
        System.out.println(office.holds(asker, person));      // true: told by the two others, not given
        System.out.println(office.fees());                    // 10
        System.out.println(office.answeredShare());           // 1.0
    }
}
