import java.lang.annotation.Retention;
import java.lang.annotation.RetentionPolicy;

/** Which sentence of the document a test holds the class to; promise 0 stands for the Terms. */
@Retention(RetentionPolicy.RUNTIME)
@interface Says {
    int promise();

    /** The document's own words. */
    String text();
}
