theorem text_fresh : mSI mX7_text [.ref 0] KW xS (fun r y => mSI mX8_text [.ref 717] KW y (fun r' _ => r = r')) := sorry
