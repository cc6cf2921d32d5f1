/-! the reader of a rule's text -/
def XF (hp hp1 : HP) (rd : Nat) : Prop := ∀ q, q ≠ rd → hp1 q = hp q
theorem XF.rf {hp : HP} {rd : Nat} : XF hp hp rd := fun _ _ => rfl
theorem XF.up {hp h1 h2 : HP} {rd : Nat} {e : Option va_E} (h : XF hp h1 rd) (eh : h2 = va_up h1 rd e) : XF hp h2 rd := fun q hq => by rw [eh, va_up_ne _ _ hq]; exact h q hq
theorem XF.tr {hp h1 h2 : HP} {rd : Nat} (h : XF hp h1 rd) (h' : XF h1 h2 rd) : XF hp h2 rd := fun q hq => (h' q hq).trans (h q hq)
theorem SBp.xf {G : HG} {hp hp1 : HP} {pa vb cv : Nat} {ml : Bool} {fb : Nat → Int32} {pn : Nat} {pt : Nat → Nat} {rd ci : Nat} {vs : List Value} (h : SBp G hp pa vb cv ml fb pn pt) (hF : XF hp hp1 rd) (hr : hp rd = some (.inr (ci, vs))) (hci : ci ≠ 0) : SBp G hp1 pa vb cv ml fb pn pt := h.fr (fun e he => by rw [hF _ (ne_look h.1 hr (by simp; omega))]; exact he) (fun e he => by rw [hF _ (ne_look h.2.1 hr (by simp))]; exact he)
