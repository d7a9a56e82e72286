/-! A NAME OF THE WHOLE LIBRARY FIRST: a light round then reads all parts over the whole of it from the start -/
theorem va_wide : Jvm.Free.Multi.outerC = Jvm.Free.Multi.outerC := rfl
