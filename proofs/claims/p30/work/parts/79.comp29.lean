/-! ranges, the head -/
def XG (hp hp1 : HP) (rd rr : Nat) : Prop := ∀ q, q ≠ rd → q ≠ rr → hp1 q = hp q
theorem XG.rf {hp : HP} {rd rr : Nat} : XG hp hp rd rr := fun _ _ _ => rfl
theorem XG.xf {hp h1 h2 : HP} {rd rr : Nat} (h : XG hp h1 rd rr) (h' : XF h1 h2 rd) : XG hp h2 rd rr := fun q a b => (h' q a).trans (h q a b)
theorem XG.xr {hp h1 h2 : HP} {rd rr : Nat} (h : XG hp h1 rd rr) (h' : XF h1 h2 rr) : XG hp h2 rd rr := fun q a b => (h' q b).trans (h q a b)
theorem XG.tr {hp h1 h2 : HP} {rd rr : Nat} (h : XG hp h1 rd rr) (h' : XG h1 h2 rd rr) : XG hp h2 rd rr := fun q a b => (h' q a b).trans (h q a b)
section RRS
variable {tx : Nat → Nat} {u p lo hi sp m h : Nat}
end RRS
