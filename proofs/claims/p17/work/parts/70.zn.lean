-- more names

