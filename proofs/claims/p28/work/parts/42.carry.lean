/-! Texts: an order carried out (class) -/
abbrev Od := Nat × Int32 × Int32 × Int32
noncomputable def doR (B : Bs) (o : Od) : Int32 := cif (o.1 = 33) (skR B o.2.1) (cif (o.1 = 98) (psR B o.2.1) (cif (o.1 = 115) (cmR B o.2.1) (cif (o.1 = 119) (wdR B o.2.1 o.2.2.1 o.2.2.2) (cif (o.1 = 122) (dzR B o.2.1) (-3)))))
noncomputable def doN (B : Bs) (o : Od) : Bs := cif (o.1 = 33) (skN B o.2.1) (cif (o.1 = 98) (psN B o.2.1) (cif (o.1 = 115) (cmN B o.2.1) (cif (o.1 = 119) (wdN B o.2.1 o.2.2.1 o.2.2.2) (cif (o.1 = 122) (dzN B o.2.1) B))))
theorem do_wf {B : Bs} {o : Od} (wf : WF B) : WF (doN B o) := by
  unfold doN
  rcases Classical.em (o.1 = 33) with c | c
  · rw [cif_y c]
    exact wf_sk wf
  rw [cif_n c]
  rcases Classical.em (o.1 = 98) with c | c
  · rw [cif_y c]
    exact wf_ps wf
  rw [cif_n c]
  rcases Classical.em (o.1 = 115) with c | c
  · rw [cif_y c]
    exact wf_cm wf
  rw [cif_n c]
  rcases Classical.em (o.1 = 119) with c | c
  · rw [cif_y c]
    exact wf_wd wf
  rw [cif_n c]
  rcases Classical.em (o.1 = 122) with c | c
  · rw [cif_y c]
    exact wf_dz wf
  rw [cif_n c]
  exact wf

