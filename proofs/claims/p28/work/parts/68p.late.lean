/-! PROVE: the checker's contracts that it takes -/
theorem sk_proveB (hB : BytesOK) (g : bG) (l : Launch) : SK g l gT q_proveB s_proveB := sk0_proveB hB g l (k_108 hB g l) (k_123 hB g l) (k_129 hB g l)
theorem sk_proveM (hB : BytesOK) (g : bG) (l : Launch) : SK g l gT q_proveM s_proveM := sk0_proveM hB g l (k_276 hB g l) (k_266 hB g l)
