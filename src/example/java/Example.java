/** What README.md shows of the use of WireLamps; it prints what README.md says that it prints. */
final class Example {
  public static void main(String[] args) {
    WireLamps lamps = new WireLamps();

    // A row with a worn wire, and a frame of two words.
    lamps.loss(0, 1);
    lamps.send(0xf00);
    System.out.println("pulses of the frame: " + lamps.send(0x123));
    System.out.println("lamp 1 would know: " + Integer.toHexString(lamps.ifGap(1, 0)));
    System.out.println("lamps that know another word: " + lamps.gap());
    System.out.println("lamp 0 shines by: " + Integer.toHexString(lamps.lampOf(0, 3)));

    // A frame as a text, with an error first.
    for (char sign : "0f0,12x!".toCharArray()) {
      lamps.append(sign);
    }
    System.out.println("first error at: " + lamps.firstError());
    try {
      lamps.load();
    } catch (IllegalArgumentException e) {
      System.out.println("such a text is not loaded");
    }
    lamps.clearBuffer();
    for (char sign : "0f0,124!".toCharArray()) {
      lamps.append(sign);
    }
    System.out.println("words loaded: " + lamps.load());
    System.out.println("lamp 1 shines by: " + Integer.toHexString(lamps.lampOf(1, 3)));

    // What the row bears, and a broken lamp, told by a test.
    System.out.println("the wire ahead of lamp 3 may lose: " + lamps.bears(3));
    lamps.mode(4, 2);
    System.out.println("no pulse would come to: " + lamps.brokenAt());

    // Six calls that may be undone: loss, send, send, gap, load, mode.
    System.out.println("saved states: " + lamps.count(10));
    System.out.println("saved states behind an undo: " + lamps.undo());
    System.out.println("no lamp is broken: " + (lamps.brokenAt() == WireLamps.NONE));
  }
}
