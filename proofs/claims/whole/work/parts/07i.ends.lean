/-! THE LAW, its end -/
section ENDS
variable {ins : Instr} {an : tAn} {pc : Nat} {L : tL} {S : List Value} {M : tM}
theorem ta_ret {x : Int32} (ht : ta ins an pc L S M = some (.inr (.inr (some (.int x))))) : ins = .ireturn ∧ S = [.int x] := by
  cases ins
  case ireturn =>
    simp only [ta] at ht
    split at ht
    · rename_i z
      (repeat' split at ht) <;> cases ht <;> exact ⟨rfl, rfl⟩
    · cases ht
  all_goals (exfalso; simp only [ta, lI, lJ, lA, wI, wA, b2, b2J, u1, nx] at ht)
  all_goals (try (cases ht; done))
  case tableswitch =>
    split at ht
    · exact tsw_no ht
    · cases ht
  case lookupswitch =>
    split at ht
    · exact lsw_no ht
    · cases ht
  case ifCond cd _ => cases cd <;> simp only [brI] at ht <;> (repeat' split at ht) <;> cases ht
  case if_icmp cd _ => cases cd <;> simp only [brI] at ht <;> (repeat' split at ht) <;> cases ht
  all_goals (repeat' split at ht)
  all_goals (cases ht)
end ENDS
def rtB (y : Nat) : Bool := y == 242 || (match mtl[y]? with
  | some e => e.1.all (okT e.2.2.2.2.1)
  | none => true)
theorem rtB_ok : ∀ y, y < 243 → rtB y = true := by decide +kernel
theorem rt_all (y : Nat) (e : tE) (h : mtl[y]? = some e) (hy : y ≠ 242) : e.1.all (okT e.2.2.2.2.1) = true := by
  have hlt : y < 243 := (List.getElem?_eq_some_iff.mp h).1
  have h2 := rtB_ok y hlt
  unfold rtB at h2
  rw [h] at h2
  simpa [hy] using h2
