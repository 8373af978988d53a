theorem SEB.off {x y : Cn} {p q : Nat} {T : TT} {W C S A N : Nat} (E : SEB x p T W C S A N) (hq : Isea q) (h : p ≠ q) (f : Frq x y q) : SEB y p T W C S A N := by
  have d := Isea.dis E.1 hq h
  exact E.mv (fun a k _ _ => f.rr a k) (fun a k h1 h2 _ => f.2 a k (by omega)) (fun _ _ => rfl)

