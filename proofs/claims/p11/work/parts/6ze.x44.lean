/-! ===== the same by their very words ===== -/
theorem eq_plain {s : Nat → Int32} {a : Nat → List Int32} {t3 t4 t5 : List Int32} {k v : Int32} : yplain (Ms s) (Bs s a t3 t4 t5) k v = xplain s a (yseg (Bs s a t3 t4 t5) (tl s)) k v := rfl
theorem eq_figure {s : Nat → Int32} {a : Nat → List Int32} {t3 t4 t5 : List Int32} {k v w : Int32} : yfig (Ms s) (Bs s a t3 t4 t5) k v w = xfig s a (yseg (Bs s a t3 t4 t5) (tl s)) k v w := rfl
theorem eq_told {s : Nat → Int32} {a : Nat → List Int32} {t3 t4 t5 : List Int32} {k w : Int32} : yy_td (Ms s) (Bs s a t3 t4 t5) k w = xtd s a k w := rfl
theorem eq_alike {s : Nat → Int32} {a : Nat → List Int32} {t3 t4 t5 : List Int32} {k yrs w : Int32} : yalike (Ms s) (Bs s a t3 t4 t5) k yrs w = xalike s a (yseg (Bs s a t3 t4 t5) (tl s)) k yrs w := rfl
theorem eq_adds {s : Nat → Int32} {a : Nat → List Int32} {t3 t4 t5 : List Int32} {k x y : Int32} : yadds (Ms s) (Bs s a t3 t4 t5) k x y = xadds s a (yseg (Bs s a t3 t4 t5) (tl s)) k x y := rfl
