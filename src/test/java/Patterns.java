/** Writes patterns into a studio from texts as jugglers note them. */
final class Patterns {
    private Patterns() {
    }

    /** A plain draft, a digit a site. */
    static SiteswapStudio plain(SiteswapStudio x, String digits) {
        x.begin(0, digits.length());
        for (int site = 0; site < digits.length(); site++) {
            x.put(site, digits.charAt(site) - '0', false);
        }
        return x;
    }

    /** A multiplex draft: a text of one to three digits for each site. */
    static SiteswapStudio multiplex(SiteswapStudio x, String... sites) {
        x.begin(1, sites.length);
        for (int site = 0; site < sites.length; site++) {
            x.put(site, sites[site].charAt(0) - '0', false);
            for (int which = 1; which < sites[site].length(); which++) {
                x.add(site, sites[site].charAt(which) - '0');
            }
        }
        return x;
    }

    /** A synchronous draft: a text of a digit, and perhaps an x, for each site. */
    static SiteswapStudio synchronous(SiteswapStudio x, String... sites) {
        x.begin(2, sites.length);
        for (int site = 0; site < sites.length; site++) {
            x.put(site, sites[site].charAt(0) - '0', sites[site].endsWith("x"));
        }
        return x;
    }

    /** The first throws of the draft's sites as a text of digits. */
    static String heights(SiteswapStudio x, int period) {
        StringBuilder text = new StringBuilder();
        for (int site = 0; site < period; site++) {
            text.append(x.height(site, 0));
        }
        return text.toString();
    }
}
